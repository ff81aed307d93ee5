/-! both readers: the code of a group's head -/
/-- what a group's head leaves of the code -/
def GRZ (f17 : Nat → Int32) (T : Int32) (a t : Nat) (S : CS) (s : RS) (R : CS) (u : RS) : Prop := (R.i 20 = S.i 20 ∧ R.a 15 = S.a 15 ∧ R.a 16 = S.a 16 ∧ R.i 23 = S.i 23 ∧ R.i 38 = S.i 38 ∧ R.a 48 = S.a 48 ∧ R.a 49 = S.a 49) ∧ (T = S.i 21 ∧ R.i 21 = S.i 21 + 1 ∧ R.a 17 = f17) ∧ (∀ k : Nat, (k : Int) < (S.i 22).toInt → R.a 19 k = S.a 19 k) ∧ (0 ≤ (s.i 24).toInt ∧ u.i 20 = s.i 20 ∧ (u.i 24).toInt = (s.i 24).toInt + 1 ∧ u.i 29 = s.i 29 ∧ u.i 33 = s.i 33 ∧ u.i 42 = s.i 42 ∧ u.i 52 = s.i 52 ∧ u.i 38 = s.i 38 ∧ u.i 43 = s.i 43 ∧ u.i 59 = s.i 59) ∧ (∀ k : Nat, (k = 21 ∨ k = 23 ∨ k = 30 ∨ k = 31 ∨ k = 32 ∨ k = 34 ∨ k = 35 ∨ k = 36 ∨ k = 37 ∨ k = 40 ∨ k = 47 ∨ k = 48 ∨ k = 49 ∨ k = 50 ∨ k = 51 ∨ k = 60 ∨ k = 61 ∨ k = 62) → u.a k = s.a k) ∧ (∀ j : Nat, j ≠ (s.a 66 t).toNatClampNeg → u.a 22 j = s.a 22 j) ∧ (∀ j : Nat, (j : Int) < (s.i 24).toInt → u.a 25 j = s.a 25 j ∧ u.a 26 j = s.a 26 j ∧ (¬ (j : Int) = (s.a 67 t).toInt → u.a 27 j = s.a 27 j) ∧ u.a 28 j = s.a 28 j) ∧ u.a 26 (s.i 24).toNatClampNeg = s.i 20 ∧ (∀ M : List Nat, chn s (s.a 22 (s.a 66 t).toNatClampNeg) M → chn u (u.a 22 (s.a 66 t).toNatClampNeg) (M ++ [(s.i 24).toNatClampNeg])) ∧ (u.a 67 t).toInt = (s.i 24).toInt ∧ (((R.i 22).toInt = (S.i 22).toInt + 1 ∧ R.a 19 (S.i 22).toInt.toNat = T ∧ u.a 28 (s.i 24).toNatClampNeg = 0 ∧ R.o a 11 = S.o a 11) ∨ (R.i 22 = S.i 22 ∧ ¬ u.a 28 (s.i 24).toNatClampNeg = 0 ∧ R.o a 11 = T ∧ (S.o a 11).toInt < 0))
theorem chn.upl {s u : RS} (h24 : (s.i 24).toInt ≤ (u.i 24).toInt) : ∀ (L : List Nat) (k : Int32), (∀ j ∈ L, u.a 27 j = s.a 27 j) → chn s k L → chn u k L
  | [], _, _, h => h
  | j :: L, k, e, h => ⟨h.1, by have := h.2.1; omega, h.2.2.1, by rw [e j List.mem_cons_self]; exact chn.upl h24 L _ (fun i hi => e i (List.mem_cons_of_mem _ hi)) h.2.2.2⟩
theorem SWG.mvl {β : Int} {G : GHT} {S R : CS} {s u : RS} {r : RVW} (h : SWG β G S s r) (i22 : (S.i 22).toInt ≤ (R.i 22).toInt) (a19 : ∀ k : Nat, (k : Int) < (S.i 22).toInt → R.a 19 k = S.a 19 k) (i24 : (s.i 24).toInt ≤ (u.i 24).toInt) (e : ∀ M : List Nat, chn s (s.a 22 (r.2.1 66).toNatClampNeg) M → ∀ j ∈ M, u.a 26 j = s.a 26 j ∧ u.a 27 j = s.a 27 j ∧ u.a 28 j = s.a 28 j) (a22 : u.a 22 (r.2.1 66).toNatClampNeg = s.a 22 (r.2.1 66).toNatClampNeg) : SWG β G R u r := by
  obtain ⟨L, h1, ⟨h2, h3, h4, h6⟩, h5⟩ := h
  have e' := e L h1
  have e28 : ∀ j ∈ L, u.a 28 j = s.a 28 j := fun j hj => (e' j hj).2.2
  have en : nd (u.a 28) L = nd (s.a 28) L := nd.eq L e28
  have ck := clampI h2
  refine ⟨L, by rw [a22]; exact chn.upl i24 L _ (fun j hj => (e' j hj).2.1) h1, ⟨h2, by rw [en]; omega, by rw [en]; exact h4, h6.trans ⟨fun ⟨j, hj, z⟩ => ⟨j, hj, by rw [e28 j hj]; exact z⟩, fun ⟨j, hj, z⟩ => ⟨j, hj, by rw [← e28 j hj]; exact z⟩⟩⟩, fun j hj => ⟨(h5 j hj).1, fun z => ?_, fun z => ?_⟩⟩
  · rw [e28 j hj] at z
    obtain ⟨w, w1, w2, w3⟩ := (h5 j hj).2.1 z
    have li := ndx.lt L hj z
    refine ⟨w, w1, ?_, by rw [(e' j hj).1]; exact w3⟩
    rw [ndx.eq L e28, a19 _ (by omega)]
    exact w2
  · rw [e28 j hj] at z
    obtain ⟨w, w1, w2, w3⟩ := (h5 j hj).2.2 z
    exact ⟨w, w1, w2, by rw [(e' j hj).1]; exact w3⟩
/-- the row on top is another, of the same goal -/
theorem JSI.rp {Ψ : GPS} {r r' : RVW} {V : List RVW} {col : Nat → Option (Nat × Bool)} {YJ : Nat → List Nat} {b s : RS} (h : JSI Ψ (r :: V) col YJ b s) (hv : r'.v = r.v) (h2 : r'.2.2 = r.2.2) (nt : ¬ isTyv r) (nw : ¬ isWl r.v) (si : ∀ k : Nat, rsite r' k ↔ rsite r k) : JSI Ψ (r' :: V) col YJ b s := by
  obtain ⟨h1, h3, h4, h5⟩ := h
  have nt' : ¬ isTyv r' := fun z => nt (by unfold isTyv at *; rw [hv] at z; exact z)
  have pty : ∀ k : Nat, PTY (r' :: V) k → PTY (r :: V) k := fun k p => by
    obtain ⟨q, hq, p1, p2⟩ := p
    rcases List.mem_cons.mp hq with z | z
    · rw [z] at p1
      exact absurd p1 nt'
    · exact ⟨q, List.mem_cons_of_mem _ z, p1, p2⟩
  refine ⟨fun q hq go => ?_, fun j g k hc => ?_, fun q hq k p => ?_, fun k p => ?_, h5.2⟩
  · rcases List.mem_cons.mp hq with z | z
    · rw [z] at go ⊢
      rw [h2]
      exact h1 r List.mem_cons_self (by rw [← hv]; exact go)
    · exact h1 q (List.mem_cons_of_mem _ z) go
  · obtain ⟨z0, q, hq, go, e, w⟩ := h3 j g k hc
    have key : ∃ q' ∈ r' :: V, (isGo q'.v ∧ (k = false → isLo q'.v)) ∧ q'.2.2 = q.2.2 := by
      rcases List.mem_cons.mp hq with z | z
      · rw [z] at go ⊢
        exact ⟨r', List.mem_cons_self, by rw [hv]; exact go, h2⟩
      · exact ⟨q, List.mem_cons_of_mem _ z, go, rfl⟩
    obtain ⟨q', hq', go', e2⟩ := key
    refine ⟨z0, q', hq', go', by rw [e2]; exact e, ?_⟩
    rcases w with w | ⟨i, i1, i2, i3, r3, hr3, i4, i5, i6, i7, i8⟩ | ⟨y, hy, w1, w2, w3, w4⟩
    · exact Or.inl w
    · have hr3' : r3 ∈ V := (List.mem_cons.mp hr3).resolve_left (fun z => nt (by rw [← z]; exact i4))
      refine Or.inr (Or.inl ⟨i, i1, i2, i3, r3, List.mem_cons_of_mem _ hr3', i4, by rw [e2]; exact i5, i6, i7, fun r2 hr2 w2 => ?_⟩)
      rcases List.mem_cons.mp hr2 with z | z
      · rw [z, hv] at w2
        exact absurd w2 nw
      · rw [e2]
        exact i8 r2 (List.mem_cons_of_mem _ z) w2
    · exact Or.inr (Or.inr ⟨y, hy, w1, fun p => w2 (pty y p), w3, w4⟩)
  · rcases List.mem_cons.mp hq with z | z
    · rw [z] at p
      exact h4 r List.mem_cons_self k ((si k).mp p)
    · exact h4 q (List.mem_cons_of_mem _ z) k p
  · exact h5.1 k ((si k).mp p)
section
variable {A : JBA} {U : RS} {B : CS} {b : RS} {V : List RVW} {S R : CS} {s u : RS} {c1 : CEL} {T : Int32}
set_option maxHeartbeats 4000000 in
/-- a group more -/
theorem JRW.grp (h : JRW A U B b (vw S s c1 :: V) S s) (h218 : S.o c1.2.1 0 = 218) (ho : ∀ k : Nat, k ≠ 5 → k ≠ 11 → R.o c1.2.1 k = S.o c1.2.1 k) (e66 : u.a 66 (ceT c1) = s.a 66 (ceT c1)) (z : GRZ (gPut (gPut (S.a 17) 1024 T (-1)) 1024 T (S.i 20)) T c1.2.1 (ceT c1) S s R u) (h44 : (S.i 44).toInt ≤ 900) (i44 : (S.i 44).toInt + 2 ≤ (R.i 44).toInt) (pl : ∀ q ∈ V, q.2.2.1 < c1.1) (hb : (b.i 20).toInt ≤ (s.a 66 (ceT c1)).toInt ∧ 0 ≤ (s.a 66 (ceT c1)).toInt ∧ (0 ≤ (s.a 67 (ceT c1)).toInt → (b.i 24).toInt ≤ (s.a 67 (ceT c1)).toInt)) (hM : ∃ M : List Nat, chn s (s.a 22 (s.a 66 (ceT c1)).toNatClampNeg) M ∧ (S.i 22).toInt = (S.o c1.2.1 13).toInt + (nd (s.a 28) M : Int)) (hlow : ∀ q ∈ V, q.v = 218 → ∀ M : List Nat, chn s (s.a 22 (q.2.1 66).toNatClampNeg) M → ∀ j ∈ M, ¬ (j : Int) = (s.a 67 (ceT c1)).toInt) (h20 : 0 ≤ (s.i 20).toInt) (r36 : R.i 36 = 1) (l11 : (s.i 11).toInt ≤ (u.i 11).toInt) (l19 : (s.i 19).toInt ≤ (u.i 19).toInt) : JRW A U B b (vw R u c1 :: V) R u := by
  intro crB
  obtain ⟨⟨eB, hB1, b1⟩, b2, b3, Ψ, G, col, YJ, sax, pin, tgi, ⟨jsi, ⟨eD, hD1, bD⟩, hds, sws, swp⟩, main⟩ := h crB
  obtain ⟨⟨i20, a15, a16, i23, i38, a48, a49⟩, ⟨eT, i21, e17⟩, a19, ⟨h24, u20, u24, u29, u33, u42, u52, u38, u43, u59⟩, ua, u22, ue, un26, uch, u67, cs⟩ := z
  obtain ⟨⟨r1, r1'⟩, r2, r3, r4, r5⟩ := crB.rms b1
  have le1 : eB ≤ 1 := by rcases hB1 with z | ⟨z, -⟩ <;> omega
  have leD : eD ≤ 1 := by rcases hD1 with z | ⟨z, -⟩ <;> omega
  have bn := crB.1.1.2.1
  have eTi : T.toInt = (S.i 21).toInt := by rw [eT]
  have ckT := clampI (show 0 ≤ T.toInt by omega)
  have ibT : ib T 1024 := ⟨by omega, by omega⟩
  have aT : R.a 17 T.toNatClampNeg = S.i 20 := by
    rw [e17]
    unfold gPut
    rw [if_pos ibT]
    exact if_pos rfl
  have a17 : ∀ k : Nat, ¬ (k : Int) = T.toInt → R.a 17 k = S.a 17 k := fun k hk => by
    rw [e17]
    unfold gPut
    rw [if_pos ibT, if_pos ibT]
    have nk : ¬ k = T.toNatClampNeg := fun e => hk (by omega)
    exact (if_neg nk).trans (if_neg nk)
  have i21' : (R.i 21).toInt = (S.i 21).toInt + 1 := by rw [i21]; exact ad1 r2 (by omega)
  obtain ⟨en, hen⟩ : ∃ en : Nat, en = (s.i 24).toNatClampNeg := ⟨_, rfl⟩
  have cken : (s.i 24).toInt = (en : Int) := by rw [hen]; exact (clampI h24).symm
  rw [← hen] at un26 uch cs
  have g0 : R.o c1.2.1 0 = 218 := by rw [ho 0 (by decide) (by decide)]; exact h218
  obtain ⟨r, hrd⟩ : ∃ r, r = vw S s c1 := ⟨_, rfl⟩
  obtain ⟨r', hrd'⟩ : ∃ r', r' = vw R u c1 := ⟨_, rfl⟩
  have rv : r.v = 218 := by rw [hrd]; exact h218
  have rv' : r'.v = 218 := by rw [hrd']; exact g0
  have f66 : r.2.1 66 = s.a 66 (ceT c1) := by rw [hrd]; exact (vw_at (k := 66) ⟨by decide, by decide⟩)
  have f66' : r'.2.1 66 = s.a 66 (ceT c1) := by rw [hrd', ← e66]; exact (vw_at (k := 66) ⟨by decide, by decide⟩)
  have f67 : r.2.1 67 = s.a 67 (ceT c1) := by rw [hrd]; exact (vw_at (k := 67) ⟨by decide, by decide⟩)
  have f67' : r'.2.1 67 = u.a 67 (ceT c1) := by rw [hrd']; exact (vw_at (k := 67) ⟨by decide, by decide⟩)
  have rp : r.2.2 = (c1.1, ceG c1) := by rw [hrd]; rfl
  have rp' : r'.2.2 = r.2.2 := by rw [rp, hrd']; rfl
  have ro : ∀ k : Nat, k ≠ 5 → k ≠ 11 → r'.1 k = r.1 k := fun k h1 h2 => by
    rw [hrd, hrd']
    show (if k = 5 then 0 else R.o c1.2.1 k) = (if k = 5 then 0 else S.o c1.2.1 k)
    rw [if_neg h1, if_neg h1]
    exact ho k h1 h2
  have ro11 : r.1 11 = S.o c1.2.1 11 ∧ r'.1 11 = R.o c1.2.1 11 ∧ r.1 13 = S.o c1.2.1 13 := by rw [hrd, hrd']; exact ⟨rfl, rfl, rfl⟩
  rw [← hrd] at sax pin tgi jsi bD hds sws swp main
  rw [← hrd']
  clear hrd hrd'
  have nty : ¬ isTyv r := fun z => by
    unfold isTyv at z
    rw [rv] at z
    rcases z with z | z | z | z <;> exact absurd z (by decide)
  have nty' : ¬ isTyv r' := fun z => by
    unfold isTyv at z
    rw [rv'] at z
    rcases z with z | z | z | z <;> exact absurd z (by decide)
  have nwl : ¬ isWl r.v := fun z => by
    rw [rv] at z
    rcases z with z | z | z <;> exact absurd z (by decide)
  have si : ∀ k : Nat, rsite r' k ↔ rsite r k := fun k => by
    unfold rsite
    rw [rv, rv', f66, f66']
    simp only [show ¬ (218 : Int32) = 204 by decide, show ¬ ((218 : Int32) = 205 ∨ (218 : Int32) = 207) by decide, false_and, false_or]
  have pen : ∀ k : Nat, PEN (r' :: V) col k ↔ PEN (r :: V) col k := fun k => by
    constructor
    · rintro (p | ⟨q, hq, p⟩)
      · exact Or.inl p
      · rcases List.mem_cons.mp hq with z | z
        · rw [z] at p
          exact Or.inr ⟨r, List.mem_cons_self, (si k).mp p⟩
        · exact Or.inr ⟨q, List.mem_cons_of_mem _ z, p⟩
    · rintro (p | ⟨q, hq, p⟩)
      · exact Or.inl p
      · rcases List.mem_cons.mp hq with z | z
        · rw [z] at p
          exact Or.inr ⟨r', List.mem_cons_self, (si k).mpr p⟩
        · exact Or.inr ⟨q, List.mem_cons_of_mem _ z, p⟩
  have pch : ∀ k : Nat, PCH (r' :: V) k → PCH (r :: V) k := fun k ⟨q, hq, p1, p2⟩ => by
    rcases List.mem_cons.mp hq with z | z
    · rw [z, f66'] at p2
      exact ⟨r, List.mem_cons_self, Or.inl rv, by rw [f66]; exact p2⟩
    · exact ⟨q, List.mem_cons_of_mem _ z, p1, p2⟩
  have pty : ∀ k : Nat, PTY (r' :: V) k ↔ PTY (r :: V) k := fun k => by
    constructor
    · exact fun p => (p.nt nty').elim (fun q hq => ⟨q, List.mem_cons_of_mem _ hq.1, hq.2⟩)
    · exact fun p => (p.nt nty).elim (fun q hq => ⟨q, List.mem_cons_of_mem _ hq.1, hq.2⟩)
  have pca : ∀ k : Nat, PCA (r' :: V) k ↔ PCA (r :: V) k := fun k => by
    constructor
    · exact fun p => (p.nt nty').elim (fun q hq => ⟨q, List.mem_cons_of_mem _ hq.1, hq.2⟩)
    · exact fun p => (p.nt nty).elim (fun q hq => ⟨q, List.mem_cons_of_mem _ hq.1, hq.2⟩)
  have tgs : rtgs r' = rtgs r := by
    unfold rtgs
    rw [rv, rv', ro 9 (by decide) (by decide), ro 10 (by decide) (by decide)]
    simp only [show ¬ (218 : Int32) = 203 by decide, show ¬ ((218 : Int32) = 213 ∨ (218 : Int32) = 215) by decide]
    rfl
  have ptle : ptl (r' :: V) = ptl (r :: V) := by
    show rtgs r' ++ ptl V = rtgs r ++ ptl V
    rw [tgs]
  obtain ⟨gv, hgv⟩ : ∃ gv : Nat × Nat × List (Int32 × Nat), gv = ((G r.2.2.1).1, (G r.2.2.1).2.1, (G r.2.2.1).2.2 ++ [(T, pcR s)]) := ⟨_, rfl⟩
  have pn : ∀ q ∈ V, ¬ q.2.2.1 = c1.1 := fun q hq z => by
    have := pl q hq
    omega
  have rpl : r.2.2.1 = c1.1 := by rw [rp]
  have rpl' : r'.2.2.1 = c1.1 := by rw [rp', rp]
  rw [rpl] at hgv
  have kdx : ∀ {x y : Int}, y ≤ 1 → KD1 x y B S → KD1 (x - 2) 0 B R := fun {x y} hy k => by
    obtain ⟨⟨k1, k2, k3⟩, k4, k5, ⟨k6, k7⟩, k8, k9⟩ := k
    refine ⟨⟨by rw [i20]; exact k1, by rw [i20]; omega, by omega⟩, fun j hj => by rw [a15, a16]; exact k4 j hj, by omega, ⟨by rw [i23]; exact k6, by rw [i23]; omega⟩, ?_, fun j hj => by rw [a19 j (by omega)]; exact k9 j hj⟩
    rcases cs with c | c
    · have := c.1
      omega
    · rw [c.1]
      exact k8
  have kd2 : ∀ {x : Int}, x ≤ (b.i 20).toInt → KD2 x b s → KD2 x b u := fun {x} hx k => by
    obtain ⟨⟨k1, k2, k3, k4, k5⟩, m1, m2, m3, m4⟩ := k
    refine ⟨⟨by rw [u20]; exact k1, by omega, by rw [u29]; exact k3, by rw [u33]; exact k4, SLC.tr k5 (SLC.eq u42 (by rw [u20]; exact Int.le_refl _))⟩, fun j hj => ?_, fun j hj => ?_, fun j hj => by rw [ua 30 (by decide), ua 31 (by decide), ua 32 (by decide)]; exact m3 j hj, fun j hj => by rw [ua 34 (by decide), ua 35 (by decide), ua 36 (by decide), ua 37 (by decide)]; exact m4 j hj⟩
    · have ck := clampI hb.2.1
      rw [ua 21 (by decide), ua 23 (by decide), u22 j (fun e => by omega)]
      exact m1 j hj
    · have y := ue j (by omega)
      rw [y.1, y.2.1, y.2.2.1 (fun e => by have := hb.2.2 (by omega); omega), y.2.2.2]
      exact m2 j hj
  have dbs : DB (G.set c1.1 gv) (r' :: V) = DB G (r :: V) + 2 := by
    show DB (G.set c1.1 gv) V + dbr (G.set c1.1 gv r'.2.2.1) r'.v = DB G V + dbr (G r.2.2.1) r.v + 2
    rw [DB.gs V pn, rpl', rpl, GHT.at, rv, rv', hgv]
    show DB G V + (2 + 2 * (((G c1.1).2.2 ++ [(T, pcR s)]).length : Int)) = DB G V + (2 + 2 * ((G c1.1).2.2.length : Int)) + 2
    rw [List.length_append]
    show DB G V + (2 + 2 * (((G c1.1).2.2.length + 1 : Nat) : Int)) = _
    omega
  have gk : GKV (r' :: V) s u := ⟨fun q hq go => by
    have lt : ((q.2.2.2 : Nat) : Int) < (s.i 43).toInt := by
      rcases List.mem_cons.mp hq with z | z
      · rw [z, rp']
        exact (jsi.1 r List.mem_cons_self (by rw [rv]; exact Or.inr (Or.inl rfl))).1
      · exact (jsi.1 q (List.mem_cons_of_mem _ z) go).1
    rw [ua 50 (by decide), ua 51 (by decide), ua 48 (by decide), ua 49 (by decide), ua 47 (by decide), u43]
    exact ⟨lt, rfl, rfl, rfl, rfl, rfl⟩, by rw [u59]; exact Int.le_refl _, fun j _ => by
    rw [ua 60 (by decide), ua 61 (by decide), ua 62 (by decide)]
    exact ⟨rfl, rfl, rfl⟩⟩
  have nh : ∀ j : Nat, ¬ col j = none → u.a 22 j = s.a 22 j := fun j hj => u22 j (fun e => hj (by
    rw [e]
    exact jsi.2.2.1 r List.mem_cons_self _ (by
      have := rsite.h8 rv (by rw [f66]; exact hb.2.1)
      rw [f66] at this
      exact this)))
  have js : JSI Ψ (r' :: V) col YJ b u := (jsi.rp (by rw [rv, rv']) rp' nty nwl si).mw gk (by rw [u20]; exact Int.le_refl _) (by rw [u29]; exact Int.le_refl _) nh (fun y _ _ => by rw [ua 31 (by decide)]) (fun _ _ q => q)
  -- the entries
  obtain ⟨M, hM1, hM2⟩ := hM
  have chM := uch M hM1
  have ltM := chn.lt M _ hM1
  have e28 : ∀ j ∈ M, u.a 28 j = s.a 28 j := fun j hj => (ue j (ltM j hj)).2.2.2
  have nM : ¬ en ∈ M := fun z => by
    have := ltM en z
    omega
  have f0 := (sws r List.mem_cons_self).1 rv
  obtain ⟨M0, m1, ⟨m2, m3, m4, m6⟩, m5⟩ := f0
  rw [f66] at m1
  rw [chn.uq _ _ _ m1 hM1] at m3 m4 m5 m6
  rw [ro11.2.2] at m2 m3 m5
  rw [ro11.1] at m5 m6
  rw [rpl] at m4 m5
  have sg : SWG (b.i 24).toInt (G.set c1.1 gv) R u r' := by
    unfold SWG
    rw [rpl', GHT.at, ro11.2.1, ro 13 (by decide) (by decide), ro11.2.2, f66', hgv]
    have mem : ∀ w : Int32 × Nat, w ∈ (G c1.1).2.2 → w ∈ (G c1.1).2.2 ++ [(T, pcR s)] := fun w hw => List.mem_append_left _ hw
    have last : (T, pcR s) ∈ (G c1.1).2.2 ++ [(T, pcR s)] := List.mem_append_right _ List.mem_cons_self
    have p26 : (u.a 26 en).toInt = ((pcR s : Nat) : Int) := by
      rw [un26]
      exact (Int.toNat_of_nonneg h20).symm
    have nda : nd (u.a 28) (M ++ [en]) = nd (s.a 28) M + (if u.a 28 en = 0 then 1 else 0) := by
      rw [nd.app, nd.eq M e28]
      show nd (s.a 28) M + (0 + (if u.a 28 en = 0 then 1 else 0)) = _
      omega
    have ckf := clampI m2
    refine ⟨M ++ [en], chM, ⟨m2, ?_, ?_, ?_⟩, fun j hj => ?_⟩
    · rw [nda]
      rcases cs with ⟨c1', c2', c3', c4'⟩ | ⟨c1', c2', c3', c4'⟩
      · rw [if_pos c3', c1']
        omega
      · rw [if_neg c2', c1']
        omega
    · rw [nda]
      show _ ≤ ((G c1.1).2.2 ++ [(T, pcR s)]).length
      rw [List.length_append]
      show _ ≤ (G c1.1).2.2.length + 1
      split <;> omega
    · rcases cs with ⟨c1', c2', c3', c4'⟩ | ⟨c1', c2', c3', c4'⟩
      · rw [c4', m6]
        constructor
        · rintro ⟨j, hj, w⟩
          exact ⟨j, List.mem_append_left _ hj, by rw [e28 j hj]; exact w⟩
        · rintro ⟨j, hj, w⟩
          rcases List.mem_append.mp hj with z | z
          · exact ⟨j, z, by rw [← e28 j z]; exact w⟩
          · rw [List.mem_singleton.mp z] at w
            exact absurd c3' w
      · rw [c3']
        exact ⟨fun _ => ⟨en, List.mem_append_right _ List.mem_cons_self, c2'⟩, fun _ => by omega⟩
    · rcases List.mem_append.mp hj with z | z
      · obtain ⟨x1, x2, x3⟩ := m5 j z
        refine ⟨x1, fun w => ?_, fun w => ?_⟩
        · rw [e28 j z] at w
          obtain ⟨y, y1, y2, y3⟩ := x2 w
          have li := ndx.lt M z w
          refine ⟨y, mem y y1, ?_, by rw [(ue j (ltM j z)).2.1]; exact y3⟩
          rw [ndx.app M _ z, ndx.eq M e28, a19 _ (by omega)]
          exact y2
        · rw [e28 j z] at w
          obtain ⟨y, y1, y2, y3⟩ := x3 w
          refine ⟨y, mem y y1, ?_, by rw [(ue j (ltM j z)).2.1]; exact y3⟩
          rcases cs with ⟨c1', c2', c3', c4'⟩ | ⟨c1', c2', c3', c4'⟩
          · rw [c4']
            exact y2
          · exfalso
            have := m6.mpr ⟨j, z, w⟩
            omega
      · rw [List.mem_singleton.mp z]
        refine ⟨by have := b3.1.2.1; omega, fun w => ⟨_, last, ?_, p26⟩, fun w => ⟨_, last, ?_, p26⟩⟩
        · rcases cs with ⟨c1', c2', c3', c4'⟩ | ⟨c1', c2', c3', c4'⟩
          · show T = _
            rw [ndx.new M nM, nd.eq M e28, ← c2']
            congr 1
            omega
          · exact absurd w c2'
        · rcases cs with ⟨c1', c2', c3', c4'⟩ | ⟨c1', c2', c3', c4'⟩
          · exact absurd c3' w
          · exact c3'.symm
  have a22V : ∀ q ∈ V, q.v = 218 → u.a 22 (q.2.1 66).toNatClampNeg = s.a 22 (q.2.1 66).toNatClampNeg := fun q hq q8 => u22 _ (fun e => by
    have z1 := rsite.h8 q8 ((swp q (List.mem_cons_of_mem _ hq)).1 q8).1
    rw [e] at z1
    have z2 := rsite.h8 rv (by rw [f66]; exact hb.2.1)
    rw [f66] at z2
    exact jsi.2.2.2.1 _ z2 q hq z1)
  have swt : SWT (b.i 24).toInt (G.set c1.1 gv) (r' :: V) R u := by
    refine ⟨fun q hq => ?_, fun q hq => ?_⟩
    · rcases List.mem_cons.mp hq with z | z
      · rw [z]
        refine ⟨fun _ => sg, fun w => absurd (rv'.symm.trans w) (by decide), fun w => absurd (rv'.symm.trans w) (by decide), fun _ => ?_, fun t => absurd (show isTy r'.v from t) (by rw [rv']; unfold isTy; decide), fun w => absurd w (by rw [rv']; decide)⟩
        rw [rpl', GHT.at, hgv, i20]
        have := (sws r List.mem_cons_self).2.2.2.1 rv
        rw [rpl] at this
        exact this
      · have y := sws q (List.mem_cons_of_mem _ z)
        have gq : G.set c1.1 gv q.2.2.1 = G q.2.2.1 := GHT.ne (pn q z)
        refine ⟨fun w => ?_, fun w => by rw [gq, ua 31 (by decide)]; exact y.2.1 w, fun w => by rw [gq, i20]; exact y.2.2.1 w, fun w => by rw [gq, i20]; exact y.2.2.2.1 w, fun t n => by rw [ua 31 (by decide)]; exact y.2.2.2.2.1 t n, fun w => by rw [gq, ua 30 (by decide)]; exact y.2.2.2.2.2 w⟩
        have y1 := (y.1 w).mvl (R := R) (u := u) (by
          rcases cs with c | c
          · omega
          · rw [c.1]
            exact Int.le_refl _) a19 (by omega) (fun M1 n1 j hj => by
          have l1 := chn.lt M1 _ n1 j hj
          have y2 := ue j l1
          exact ⟨y2.2.1, y2.2.2.1 (hlow q z w M1 n1 j hj), y2.2.2.2⟩) (a22V q z w)
        unfold SWG at y1 ⊢
        rw [gq]
        exact y1
    · rcases List.mem_cons.mp hq with z | z
      · rw [z]
        refine ⟨fun _ => ?_, fun t => absurd (show isTy r'.v from t) (by rw [rv']; unfold isTy; decide), by rw [rv']; decide⟩
        have := (swp r List.mem_cons_self).1 rv
        rw [f66', u20]
        rw [f66] at this
        exact this
      · have y := swp q (List.mem_cons_of_mem _ z)
        rw [u20, u29]
        exact y
  refine ⟨⟨0, Or.inl rfl, (kdx le1 b1).wk (by omega) (Int.le_refl _)⟩, ⟨fun k k1 k2 => ?_, (b2.2.c0 (by rw [show (vw S s c1).v = 218 from h218]; decide) (NK.eq a48 a49 u52 u38)).p0 (by rw [rv']; decide) (NK.eq rfl rfl rfl rfl)⟩, kd2 (Int.le_refl _) b3, Ψ, G.set c1.1 gv, col, YJ, ?_, ⟨fun k q => by rw [u20]; exact pin.1 k ((pen k).mp q), fun k q => ?_, fun k q => by rw [u29]; exact pin.2.2.1 k ((pty k).mp q), fun k q => by rw [u33]; exact pin.2.2.2 k ((pca k).mp q)⟩, ?_, ⟨js, ⟨0, Or.inl rfl, by rw [dbs]; exact (kdx leD bD).wk (by omega) (Int.le_refl _)⟩, fun q hq y hy => ?_, swt⟩, ?_⟩
  · rw [a17 k (by have := b1.2.2.1; omega)]
    exact b2.1 k k1 k2
  · have y := SAX.mo (fun k p => (pty k).mp p) (fun k p => (pca k).mp p) sax
    unfold SAX GHM SLO at y ⊢
    rw [i23, u42, u20, u29]
    exact y
  · obtain ⟨q', hq', p1, p2⟩ := q
    rcases List.mem_cons.mp hq' with z | z
    · rw [z, f67'] at p2
      omega
    · have := pin.2.1 k ⟨q', List.mem_cons_of_mem _ z, p1, p2⟩
      omega
  · obtain ⟨t1, t2⟩ := tgi
    unfold TGI
    rw [ptle]
    refine ⟨t1, fun y hy => ?_⟩
    obtain ⟨y1, y2, y3⟩ := t2 y hy
    have cky := clampI (show 0 ≤ y.toInt by omega)
    exact ⟨y1, by omega, by rw [a17 _ (by omega)]; exact y3⟩
  · have hm : q ∈ V := (List.mem_cons.mp hq).resolve_left (fun w => by
      rw [w] at hy
      exact rhd.no (by rw [rv']; decide) y hy)
    obtain ⟨y1, y2, y3, y4⟩ := hds q (List.mem_cons_of_mem _ hm) y hy
    have cky := clampI (show 0 ≤ y.toInt by omega)
    rw [a17 _ (by omega), i20]
    exact ⟨y1, by omega, y3, y4⟩
  intro FC SF nm X h0 ω c0 psi ng0 hc0 hh0 hω
  obtain ⟨⟨ng, hc, hh, dp⟩, mn⟩ := main FC SF nm X h0 ω c0 psi ng0 hc0 hh0 hω
  have en0 : ∀ (Gx : GHT) (h l : Nat), jen Gx ω r' h l = [] := fun Gx h l => jen.no (by rw [rv']; decide) nty' (by rw [rv']; decide)
  have en1 : ∀ (Gx : GHT) (h l : Nat), jen Gx ω r h l = [] := fun Gx h l => jen.no (by rw [rv]; decide) nty (by rw [rv]; decide)
  have jcv : JCX (G.set c1.1 gv) ω h0 c0 V = JCX G ω h0 c0 V := JCX.gs V pn
  have jcx : JCX (G.set c1.1 gv) ω h0 c0 (r' :: V) = JCX G ω h0 c0 (r :: V) := by
    show ((JCX (G.set c1.1 gv) ω h0 c0 V).h, (JCX (G.set c1.1 gv) ω h0 c0 V).l + jlv r'.v, jty r'.v ((JCX (G.set c1.1 gv) ω h0 c0 V).l + jlv r'.v) (JCX (G.set c1.1 gv) ω h0 c0 V).t, jen (G.set c1.1 gv) ω r' (JCX (G.set c1.1 gv) ω h0 c0 V).h (JCX (G.set c1.1 gv) ω h0 c0 V).l ++ (JCX (G.set c1.1 gv) ω h0 c0 V).c) = ((JCX G ω h0 c0 V).h, (JCX G ω h0 c0 V).l + jlv r.v, jty r.v ((JCX G ω h0 c0 V).l + jlv r.v) (JCX G ω h0 c0 V).t, jen G ω r (JCX G ω h0 c0 V).h (JCX G ω h0 c0 V).l ++ (JCX G ω h0 c0 V).c)
    rw [jcv, en0, en1, rv, rv']
  rw [jcx]
  have go : isGo r.v := by rw [rv]; exact Or.inr (Or.inl rfl)
  have go' : isGo r'.v := by rw [rv']; exact Or.inr (Or.inl rfl)
  have d0 : dfr (218 : Int32) = 0 := by decide
  refine ⟨⟨?_, hc, Int.le_trans hh l11, ⟨⟨fun _ => ?_, fun w => ?_, fun w => absurd w nty', fun w => absurd (rv'.symm.trans w) (by decide)⟩, (DPM.gs V pn).mpr (dp.2.mv V (fun q hq gq => by rw [ua 47 (by decide)]) l11)⟩⟩, fun fc fg hA tyc jr cur => ?_⟩
  · obtain ⟨n1, n2, n3, n4, n5⟩ := ng
    refine ⟨fun k hk => ?_, by rw [i38]; exact n2, by rw [u52]; exact n3, Int.le_trans n4 l19, ?_⟩
    · rw [a48, a49, ua 40 (by decide)]
      rw [u38] at hk
      exact n1 k hk
    · unfold NCB SLO at n5 ⊢
      rw [i23, u42, u20]
      exact n5
  · have y := dp.1.1 go
    rw [ro 2 (by decide) (by decide), ro 9 (by decide) (by decide), ro 10 (by decide) (by decide), rp', ua 47 (by decide)]
    refine ⟨⟨y.1.1, ?_⟩, y.2.1, fun w => absurd (show isLo r'.v from w) (fun z => by rw [rv'] at z; rcases z with z | z | z | z <;> exact absurd z (by decide)), RHP.no (by rw [rv']; decide)⟩
    have e1 : sln (r' :: V) = sln (r :: V) := by
      show sln V + dln r'.v = sln V + dln r.v
      rw [rv, rv']
    rw [e1]
    exact y.1.2
  · rw [rv', d0] at w
    exact absurd w (by decide)
  have pcx : pcC R = pcC S := by unfold pcC; rw [i20]
  have prx : pcR u = pcR s := by unfold pcR; rw [u20]
  have cur1 := cur r36
  rw [pcx, prx] at cur1
  have fcS : FGD (r :: V) B S SF := by
    obtain ⟨⟨g1, g2⟩, g3, g4⟩ := fc
    rw [ptle] at g4
    refine ⟨⟨g1, by rw [i20] at g2; exact g2⟩, fun j j1 j2 => ?_, fun k k1 k2 k3 => ?_⟩
    · have y := g3 j j1 (by rw [i20]; exact j2)
      rw [a15, a16] at y
      exact y
    · have nk := a17 k (by omega)
      have y := g4 k k1 (by omega) (k3.elim (fun w => Or.inl (by rw [nk]; exact w)) (fun w => Or.inr ⟨by omega, w.2⟩))
      rw [nk] at y
      exact y
  have fgS : FGP (r :: V) col b s U := by
    obtain ⟨g1, g4, g5, g6, g7⟩ := fg
    rw [u20] at g1 g4
    rw [u29] at g6
    rw [u33] at g7
    refine ⟨g1, fun j j1 j2 => ⟨by rw [(g4 j j1 j2).1, ua 21 (by decide)], fun q => ?_, fun q => by rw [(g4 j j1 j2).2.2 (fun p => q (pch j p)), ua 23 (by decide)]⟩, fun j j1 j2 => ?_, fun j j1 j2 q => ?_, fun j j1 j2 => ?_⟩
    · rw [(g4 j j1 j2).2.1 (fun p => q ((pen j).mp p)), u22 j (fun e => q (Or.inr ⟨r, List.mem_cons_self, ?_⟩))]
      have := rsite.h8 rv (by rw [f66]; exact hb.2.1)
      rw [f66, ← e] at this
      exact this
    · have y := g5 j j1 (by omega)
      have y2 := ue j j2
      refine ⟨y.1.trans y2.1, y.2.1.trans y2.2.1, fun q => ?_, y.2.2.2.trans y2.2.2.2⟩
      have n67 : ¬ (j : Int) = (s.a 67 (ceT c1)).toInt := fun e => q ⟨r, List.mem_cons_self, rv, by rw [f67]; exact e⟩
      refine (y.2.2.1 (fun ⟨q', hq', p1, p2⟩ => ?_)).trans (y2.2.2.1 n67)
      rcases List.mem_cons.mp hq' with z | z
      · rw [z, f67'] at p2
        omega
      · exact q ⟨q', List.mem_cons_of_mem _ z, p1, p2⟩
    · have y := g6 j j1 j2 (fun p => q ((pty j).mp p))
      rw [ua 30 (by decide), ua 31 (by decide), ua 32 (by decide)] at y
      exact y
    · have y := g7 j j1 j2
      rw [ua 34 (by decide), ua 35 (by decide), ua 36 (by decide), ua 37 (by decide)] at y
      exact ⟨y.1, y.2.1, y.2.2.1, fun q => y.2.2.2 (fun p => q ((pca j).mp p))⟩
  obtain ⟨jr1, jr2⟩ := jr
  rw [jcv] at jr1
  rw [JRS.gs V pn] at jr2
  have g1e : (G.set c1.1 gv r'.2.2.1).1 = (G r.2.2.1).1 := by rw [rpl', GHT.at, hgv, rpl]
  have jrs : JRS FC SF U nm X G col YJ ω h0 c0 (r :: V) := by
    refine ⟨⟨fun w => absurd (rv.symm.trans w) (by decide), fun w => absurd (rv.symm.trans w) (by decide), fun w => absurd (rv.symm.trans w) (by decide), fun w => absurd (rv.symm.trans w) (by decide), fun w => absurd (rv.symm.trans w) (by decide), fun w => absurd (rv.symm.trans w) (by decide), fun _ => ?_, fun w => absurd w nty, fun _ i fy => ?_⟩, jr2⟩
    · have y := jr1.2.2.2.2.2.2.1 rv'
      unfold SWH at y ⊢
      rw [g1e, f66', ← f66] at y
      exact y
    · have y := jr1.2.2.2.2.2.2.2.2 go' i fy
      unfold jcn jbk at y ⊢
      rw [rv', ro 9 (by decide) (by decide), ro 10 (by decide) (by decide), rp', if_neg (by decide), if_neg (by decide)] at y
      rw [rv, if_neg (by decide), if_neg (by decide)]
      exact y
  have res := mn fcS fgS hA tyc jrs (fun _ => cur1)
  refine ⟨res.1, ?_⟩
  show JHH FC SF U nm X (G.set c1.1 gv) ω r' (JCX (G.set c1.1 gv) ω h0 c0 V) ∧ JHS FC SF U nm X (G.set c1.1 gv) ω h0 c0 V
  rw [jcv, JHS.gs V pn]
  refine ⟨⟨fun w => absurd (rv'.symm.trans w) (by decide), fun w => absurd (rv'.symm.trans w) (by decide), fun w => absurd (rv'.symm.trans w) (by decide), fun w => absurd (rv'.symm.trans w) (by decide), fun _ => ?_⟩, res.2.2⟩
  obtain ⟨swe, swf⟩ := res.2.1.2.2.2.2 rv
  refine ⟨fun w hw => ?_, ?_⟩
  · rw [g1e]
    rw [rpl', GHT.at, hgv] at hw
    rcases List.mem_append.mp hw with z | z
    · exact swe w (by rw [rpl]; exact z)
    · rw [List.mem_singleton.mp z]
      have y := fc.2.2 T.toNatClampNeg (by have := b1.2.2.1; omega) (by omega) (Or.inl (by rw [aT]; exact r1))
      refine ⟨pcC S, ?_, ⟨by have := fc.1.2; unfold pcC; rw [i20] at this; omega, ?_⟩, ?_⟩
      · unfold cTg gAt
        rw [if_pos ibT]
        show (SF.a 17 T.toNatClampNeg).toInt = _
        rw [y, aT]
        exact (Int.toNat_of_nonneg r1).symm
      · have := (sws r List.mem_cons_self).2.2.2.1 rv
        unfold pcC
        omega
      · have y2 := cur1.1
        have e1 : (JCX G ω h0 c0 (r :: V)).l = (JCX G ω h0 c0 V).l + 1264 := by
          show (JCX G ω h0 c0 V).l + jlv r.v = _
          rw [rv]
          rfl
        have e2 : (JCX G ω h0 c0 (r :: V)).c = (JCX G ω h0 c0 V).c := by
          show jen G ω r (JCX G ω h0 c0 V).h (JCX G ω h0 c0 V).l ++ (JCX G ω h0 c0 V).c = _
          rw [en1]
          rfl
        rw [e1, e2, ← Nat.add_assoc] at y2
        exact y2
  · unfold SWF at swf ⊢
    rw [g1e, f66', ro 10 (by decide) (by decide)]
    rw [f66] at swf
    exact swf
end
