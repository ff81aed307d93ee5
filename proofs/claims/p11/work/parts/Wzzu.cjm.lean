/-! both readers: a jump more, all that stands -/
theorem STK.ty {S : CS} {s : RS} {L : List CEL} {m e k : Int} (h : STK S s L m e k) : ∀ q ∈ L, isWl (S.o q.2.1 0) → (s.a 57 (ceW q) = s.a 66 (ceT q) ∧ (s.a 58 (ceW q)).toInt = (ceG q : Int)) ∧ (s.a 66 (ceT q)).toInt < (s.i 29).toInt := fun q hq t => by
  obtain ⟨m1, e1, k1, m2, e2, k2, g⟩ := STK.mem L m e k h q hq
  have z := (g.2.2.1.2.2.2.2.2.2.2.2.2.2.2.2 t.ty).1
  exact ⟨z.2.2.2 t, z.2.1.2⟩
theorem STK.glb {b : RS} {X : CS} {v : RS} : ∀ (L : List CEL) (c : CEL) (m e k : Int), STK X v (c :: L) m e k → BOT b X (c :: L) → ∀ y ∈ c :: L, (b.i 43).toInt ≤ (ceG y : Int) := by
  intro L
  induction L with
  | nil =>
    intro c m e k _ hb y hy
    rcases List.mem_cons.mp hy with rfl | hy
    · have := hb.2.1
      omega
    · exact absurd hy List.not_mem_nil
  | cons c0 L ih =>
    intro c m e k st hb y hy
    have z0 := (STK.gl (c0 :: L) c m e k st hb).1
    obtain ⟨m', e', k', g1, g2, g3⟩ := st
    rcases List.mem_cons.mp hy with e0 | hy
    · rw [e0]
      exact z0
    · exact ih c0 m' e' k' g3 hb y hy
/-- the wall that a jump waits at -/
theorem TWL {B : CS} {b : RS} {X : CS} {v u : RS} {L : List CEL} {c w : CEL} {m e k bb : Int} (st : STK X v (c :: L) m e k) (tX : TOP X v c) (hb : BO2 B b X (c :: L)) (tb : TBB b v) (gl : (b.i 43).toInt ≤ (ceG w : Int)) (hw : w ∈ c :: L) (j : JPD w bb v u) : ∃ q ∈ c :: L, isWl (X.o q.2.1 0) ∧ w.1 < q.1 ∧ (∀ y ∈ c :: L, q.1 < y.1 → ¬ isWl (X.o y.2.1 0)) ∧ v.a 57 ((v.i 56).toInt - 1).toNat = v.a 66 (ceT q) ∧ (v.a 66 (ceT q)).toInt < (v.i 29).toInt := by
  obtain ⟨⟨j1, j2⟩, -⟩ := j
  have t3 := tX.2.2
  obtain ⟨inj1, inj2⟩ := STK.inj (c :: L) m e k st
  rcases WLT L c m e k st hb with ⟨q, hq, q1, q2, q3⟩ | ⟨-, q2, q3⟩
  · obtain ⟨⟨y1, y2⟩, y3⟩ := st.ty q hq q1
    have en : ((v.i 56).toInt - 1).toNat = ceW q := by omega
    rw [en] at j2 ⊢
    refine ⟨q, hq, q1, ?_, q3, y1, y3⟩
    rcases Nat.lt_trichotomy w.1 q.1 with z | z | z
    · exact z
    · exfalso
      rw [inj1 w hw q hq z] at j2
      omega
    · exfalso
      have := (inj2 q hq w hw z).2.1
      omega
  · exfalso
    have e56 : (v.i 56).toInt = (b.i 56).toInt := by omega
    have y := (tb.2.2.2.2.2.1 ((b.i 56).toInt - 1).toNat (by omega)).2
    rw [e56, y] at j2
    have := q3 (by omega)
    omega
theorem TFL {B : CS} {b : RS} {X : CS} {v u : RS} {L : List CEL} {c w : CEL} {m e k bb : Int} (st : STK X v (c :: L) m e k) (tX : TOP X v c) (hb : BO2 B b X (c :: L)) (hw : w ∈ c :: L) (gw : isGo (X.o w.2.1 0)) (j : JFL w bb v u) : ∀ y ∈ c :: L, isWl (X.o y.2.1 0) → ¬ w.1 < y.1 := by
  obtain ⟨j1, -⟩ := j
  have t3 := tX.2.2
  obtain ⟨inj1, inj2⟩ := STK.inj (c :: L) m e k st
  intro y hy yw l
  rcases WLT L c m e k st hb with ⟨q, hq, q1, q2, q3⟩ | ⟨q1, -, -⟩
  · obtain ⟨⟨-, y2⟩, -⟩ := st.ty q hq q1
    have en : ((v.i 56).toInt - 1).toNat = ceW q := by omega
    rw [en] at j1
    have lq : w.1 < q.1 := by
      by_cases z : q.1 < y.1
      · exact absurd yw (q3 y hy z)
      · omega
    have z := (inj2 w hw q hq lq).2.1
    have := nGo1 gw
    omega
  · exact q1 y hy yw
/-- flags stay -/
theorem flg.up {w : CEL} {bb : Int} {v u : RS} (hj : JFL w bb v u ∨ JPD w bb v u) (hb : bb = 0 ∨ bb = 1) (g : Nat) (b' : Int) (h : flg v g b' = 1) : flg u g b' = 1 := by
  unfold flg at *
  rcases hj with ⟨-, -, -, j1, j2⟩ | ⟨-, ⟨j1, j2⟩, -⟩
  · rcases hb with z | z
    · obtain ⟨y1, y2⟩ := j1 z
      by_cases c0 : b' = 0
      · rw [if_pos c0] at h ⊢
        rw [y1]
        by_cases c1 : g = ceG w
        · exact updA c1
        · rw [updN c1]
          exact h
      · rw [if_neg c0] at h ⊢
        rw [y2]
        exact h
    · obtain ⟨y1, y2⟩ := j2 z
      by_cases c0 : b' = 0
      · rw [if_pos c0] at h ⊢
        rw [y2]
        exact h
      · rw [if_neg c0] at h ⊢
        rw [y1]
        by_cases c1 : g = ceG w
        · exact updA c1
        · rw [updN c1]
          exact h
  · rw [j1, j2]
    exact h
theorem flg.at {w : CEL} {bb : Int} {v u : RS} (hj : JFL w bb v u) (hb : bb = 0 ∨ bb = 1) : flg u (ceG w) bb = 1 := by
  unfold flg
  obtain ⟨-, -, -, j1, j2⟩ := hj
  rcases hb with z | z
  · rw [if_pos z, (j1 z).1]
    exact updA rfl
  · rw [if_neg (by omega), (j2 z).1]
    exact updA rfl
/-- a flag that was not set: this jump's -/
theorem flg.nw {w : CEL} {bb : Int} {v u : RS} (hj : JFL w bb v u ∨ JPD w bb v u) (hb : bb = 0 ∨ bb = 1) (g : Nat) (b' : Int) (hb' : b' = 0 ∨ b' = 1) (h : flg u g b' = 1) : flg v g b' = 1 ∨ (JFL w bb v u ∧ g = ceG w ∧ b' = bb) := by
  unfold flg at *
  rcases hj with j | ⟨-, ⟨j1, j2⟩, -⟩
  · obtain ⟨-, -, -, j1, j2⟩ := id j
    rcases hb with z | z
    · obtain ⟨y1, y2⟩ := j1 z
      by_cases c0 : b' = 0
      · rw [if_pos c0] at h ⊢
        rw [y1] at h
        by_cases c1 : g = ceG w
        · exact Or.inr ⟨j, c1, by omega⟩
        · rw [updN c1] at h
          exact Or.inl h
      · rw [if_neg c0] at h ⊢
        rw [y2] at h
        exact Or.inl h
    · obtain ⟨y1, y2⟩ := j2 z
      by_cases c0 : b' = 0
      · rw [if_pos c0] at h ⊢
        rw [y2] at h
        exact Or.inl h
      · rw [if_neg c0] at h ⊢
        rw [y1] at h
        by_cases c1 : g = ceG w
        · exact Or.inr ⟨j, c1, by omega⟩
        · rw [updN c1] at h
          exact Or.inl h
  · rw [j1, j2] at h
    exact Or.inl h
theorem flg.bo {w : CEL} {bb : Int} {v u : RS} (hj : JFL w bb v u ∨ JPD w bb v u) (hb : bb = 0 ∨ bb = 1) (g : Nat) (b' : Int) (h : flg v g b' = 0 ∨ flg v g b' = 1) : flg u g b' = 0 ∨ flg u g b' = 1 := by
  unfold flg at *
  rcases hj with ⟨-, -, -, j1, j2⟩ | ⟨-, ⟨j1, j2⟩, -⟩
  · rcases hb with z | z
    · obtain ⟨y1, y2⟩ := j1 z
      rw [y1, y2]
      by_cases c0 : b' = 0
      · rw [if_pos c0] at h ⊢
        by_cases c1 : g = ceG w
        · exact Or.inr (updA c1)
        · rw [updN c1]
          exact h
      · rw [if_neg c0] at h ⊢
        exact h
    · obtain ⟨y1, y2⟩ := j2 z
      rw [y1, y2]
      by_cases c0 : b' = 0
      · rw [if_pos c0] at h ⊢
        exact h
      · rw [if_neg c0] at h ⊢
        by_cases c1 : g = ceG w
        · exact Or.inr (updA c1)
        · rw [updN c1]
          exact h
  · rw [j1, j2]
    exact h
/-- what waits stays -/
theorem pnd.up {w : CEL} {bb : Int} {v u : RS} (hj : JFL w bb v u ∨ JPD w bb v u) (e66 : u.a 66 = v.a 66) : (v.i 59).toInt ≤ (u.i 59).toInt ∧ (∀ j : Nat, (j : Int) < (v.i 59).toInt → u.a 60 j = v.a 60 j ∧ u.a 61 j = v.a 61 j ∧ u.a 62 j = v.a 62 j) ∧ (∀ (y q : CEL) (b' : Int) (k : Nat), PND v y q b' k → PND u y q b' k) := by
  have h : (v.i 59).toInt ≤ (u.i 59).toInt ∧ (∀ j : Nat, (j : Int) < (v.i 59).toInt → u.a 60 j = v.a 60 j ∧ u.a 61 j = v.a 61 j ∧ u.a 62 j = v.a 62 j) := by
    rcases hj with ⟨-, j1, ⟨j2, j3, j4⟩, -⟩ | ⟨-, -, ⟨j0, j1⟩, j2, -⟩
    · rw [j1, j2, j3, j4]
      exact ⟨Int.le_refl _, fun _ _ => ⟨rfl, rfl, rfl⟩⟩
    · exact ⟨by omega, fun j hj => j2 j (by omega)⟩
  refine ⟨h.1, h.2, fun y q b' k p => ?_⟩
  obtain ⟨p1, p2, p3, p4⟩ := p
  obtain ⟨z1, z2, z3⟩ := h.2 k p1
  unfold PND
  rw [z1, z2, z3, e66]
  exact ⟨by omega, p2, p3, p4⟩
set_option maxHeartbeats 1000000 in
theorem JMQ.jmp {B : CS} {b : RS} {X R : CS} {v u : RS} {L : List CEL} {c w : CEL} {m e k bb : Int} {B59 B29 : Int} (h : JMQ X v (c :: L) B59 B29) (st : STK X v (c :: L) m e k) (tX : TOP X v c) (hbo : BO2 B b X (c :: L)) (tb : TBB b v) (gl : (b.i 43).toInt ≤ (ceG w : Int)) (hw : w ∈ c :: L) (gw : isGo (X.o w.2.1 0)) (hb : bb = 0 ∨ bb = 1) (eo : R.o = X.o) (e54 : R.i 54 = X.i 54) (z55 : 0 ≤ (X.i 55).toInt) (e55 : (R.i 55).toInt = (X.i 55).toInt + 1) (n52 : ∀ i : Nat, ¬ (i : Int) = (X.i 55).toInt → R.a 52 i = X.a 52 i) (r52 : ∀ i : Nat, (i : Int) = (X.i 55).toInt → (R.a 52 i).toInt = 2 * (X.o w.2.1 1).toInt + bb) (ej : EJF v u) (hj : JFL w bb v u ∨ JPD w bb v u) : JMQ R u (c :: L) B59 B29 := by
  obtain ⟨h1, h2, h3, h4, h5, h6, h7, h8⟩ := h
  obtain ⟨inj1, inj2⟩ := STK.inj (c :: L) m e k st
  have e66 := ej.A 66 (by decide)
  obtain ⟨p1, p2, p3⟩ := pnd.up hj e66
  obtain ⟨i0, hi0⟩ : ∃ i : Nat, (i : Int) = (X.i 55).toInt := ⟨(X.i 55).toInt.toNat, by omega⟩
  have rup : ∀ (y : CEL) (b' : Int) (i : Nat), RCD X y b' i → RCD R y b' i := fun y b' i q => by
    obtain ⟨q1, q2⟩ := q
    unfold RCD
    rw [n52 i (by omega), eo]
    exact ⟨by omega, q2⟩
  have rnew : RCD R w bb i0 := by
    unfold RCD
    rw [eo]
    exact ⟨by omega, r52 i0 hi0, by have := (h7 w hw).2.2.2.1; omega⟩
  have same : ∀ y ∈ c :: L, (X.o y.2.1 1).toInt = (X.o w.2.1 1).toInt → y = w := fun y hy q => by
    rcases Nat.lt_trichotomy y.1 w.1 with z | z | z
    · have := (inj2 y hy w hw z).1
      omega
    · exact inj1 y hy w hw z
    · have := (inj2 w hw y hy z).1
      omega
  have sameG : ∀ y ∈ c :: L, isGo (X.o y.2.1 0) → ceG y = ceG w → y = w := fun y hy gy q => by
    have n1 := nGo1 gy
    have n2 := nGo1 gw
    rcases Nat.lt_trichotomy y.1 w.1 with z | z | z
    · have := (inj2 y hy w hw z).2.1
      omega
    · exact inj1 y hy w hw z
    · have := (inj2 w hw y hy z).2.1
      omega
  have n216 : ∀ q ∈ c :: L, X.o q.2.1 0 = 216 → ¬ INR R q i0 := fun q hq t z => by
    have z2 := z.2 (by rw [eo]; exact t)
    have := ((h7 q hq).2.2.2.2 t).2
    rw [eo] at z2
    omega
  have inw : ∀ q ∈ c :: L, isWl (X.o q.2.1 0) → INR R q i0 := fun q hq t => by
    unfold INR
    rw [eo]
    have := (h7 q hq).2.2.2.1
    refine ⟨by omega, fun z => ?_⟩
    rcases t with t | t | t <;> rw [t] at z <;> exact absurd z (by decide)
  have tyq : ∀ q : CEL, isTy (X.o q.2.1 0) → isWl (X.o q.2.1 0) ∨ X.o q.2.1 0 = 216 := fun q t => by
    rcases t with t | t | t | t
    · exact Or.inl (Or.inl t)
    · exact Or.inl (Or.inr (Or.inl t))
    · exact Or.inl (Or.inr (Or.inr t))
    · exact Or.inr t
  have inr : ∀ (q : CEL) (i : Nat), INR X q i → INR R q i := fun q i z => by
    unfold INR at *
    rw [eo]
    exact z
  have saf : ∀ (n i : Nat), SAF X (c :: L) n i → SAF R (c :: L) n i := fun n i z q hq t l y => by
    rw [eo] at t
    refine z q hq t l ?_
    unfold INR at *
    rw [eo] at y
    exact y
  have pnew : JPD w bb v u → ∃ q ∈ c :: L, isWl (X.o q.2.1 0) ∧ w.1 < q.1 ∧ (∀ y ∈ c :: L, q.1 < y.1 → ¬ isWl (X.o y.2.1 0)) ∧ ∀ j : Nat, (j : Int) = (v.i 59).toInt → PND u w q bb j := fun j => by
    obtain ⟨q, hq, q1, q2, q3, q4, -⟩ := TWL st tX hbo tb gl hw j
    obtain ⟨-, -, ⟨j0, j1⟩, -, j3⟩ := j
    refine ⟨q, hq, q1, q2, q3, fun i hi => ?_⟩
    obtain ⟨y1, y2, y3⟩ := j3 i hi
    unfold PND
    rw [e66, y3]
    exact ⟨by omega, y1, y2, q4⟩
  refine ⟨fun y hy gy b' hb' i r => ?_, fun y hy gy b' hb' f => ?_, fun j hj2 q hq t e62 => ?_, fun j hl hj2 => ?_, fun q hq t => ?_, fun q hq p hp t1 t2 l => ?_, fun y hy => ?_, ⟨fun i hi hg9 => ?_, fun y hy gy b' => ?_⟩⟩
  · rw [eo] at gy
    by_cases ci : i = i0
    · obtain ⟨-, r2⟩ := r
      rw [eo, ci, r52 i0 hi0] at r2
      have eb : bb = b' := by omega
      have ey : y = w := same y hy (by omega)
      rw [ey, ci, ← eb]
      rcases hj with j | j
      · exact Or.inl (flg.at j hb)
      · obtain ⟨q, hq, q1, q2, q3, q4⟩ := pnew j
        obtain ⟨i1, hi1⟩ : ∃ i : Nat, (i : Int) = (v.i 59).toInt := ⟨(v.i 59).toInt.toNat, by have := j.2.2.1.1; omega⟩
        exact Or.inr ⟨i1, q, hq, by rw [eo]; exact q1.ty, q2, q4 i1 hi1, inw q hq q1⟩
    · have r' : RCD X y b' i := by
        obtain ⟨r1, r2⟩ := r
        rw [eo, n52 i (by omega)] at r2
        exact ⟨by omega, r2⟩
      rcases h1 y hy gy b' hb' i r' with z | ⟨k1, q, hq, z1, z2, z3, z4⟩
      · exact Or.inl (flg.up hj hb _ _ z)
      · exact Or.inr ⟨k1, q, hq, by rw [eo]; exact z1, z2, p3 y q b' k1 z3, inr q i z4⟩
  · rw [eo] at gy
    rcases flg.nw hj hb _ b' hb' f with z | ⟨j, z1, z2⟩
    · obtain ⟨i, r1, r2, r3⟩ := h2 y hy gy b' hb' z
      exact ⟨i, rup y b' i r1, by rw [eo]; exact r2, saf _ _ r3⟩
    · have ey : y = w := sameG y hy gy z1
      rw [ey, z2]
      refine ⟨i0, rnew, ?_, fun q hq t l z => ?_⟩
      · rw [eo]
        have := (h7 w hw).2.2.2.1
        omega
      · rw [eo] at t
        rcases tyq q t with t | t
        · exact TFL st tX hbo hw gw j q hq t l
        · exact n216 q hq t z
  · rw [eo] at t
    rw [e66] at e62
    by_cases cj : (j : Int) < (v.i 59).toInt
    · rw [(p2 j cj).2.2] at e62
      obtain ⟨y, hy, y1, y2, b', hb', y3, i, r1, r2, r3⟩ := h3 j cj q hq t e62
      exact ⟨y, hy, by rw [eo]; exact y1, y2, b', hb', p3 y q b' j y3, i, rup y b' i r1, inr q i r2, saf _ _ r3⟩
    · rcases hj with j1 | j1
      · have := j1.2.1
        rw [this] at hj2
        omega
      · have jl : (j : Int) = (v.i 59).toInt := by
          have := j1.2.2.1.2
          omega
        obtain ⟨q', hq', q1, q2, q3, q4⟩ := pnew j1
        have pn := q4 j jl
        have eq : q = q' := by
          have z := pn.2.2.2
          rw [e66] at z
          have zz : v.a 66 (ceT q) = v.a 66 (ceT q') := e62.symm.trans z
          rcases Nat.lt_trichotomy q.1 q'.1 with l | l | l
          · have := h6 q hq q' hq' t q1.ty l
            rw [zz] at this
            omega
          · exact inj1 q hq q' hq' l
          · have := h6 q' hq' q hq q1.ty t l
            rw [zz] at this
            omega
        rw [eq]
        refine ⟨w, hw, by rw [eo]; exact gw, q2, bb, hb, pn, i0, rnew, inw q' hq' q1, fun y hy ty l z => ?_⟩
        rw [eo] at ty
        rcases tyq y ty with t2 | t2
        · exact q3 y hy l t2
        · exact n216 y hy t2 z
  · rw [e66, eo]
    by_cases cj : (j : Int) < (v.i 59).toInt
    · rw [(p2 j cj).2.2]
      exact h4 j hl cj
    · rcases hj with j1 | j1
      · have := j1.2.1
        rw [this] at hj2
        omega
      · have jl : (j : Int) = (v.i 59).toInt := by
          have := j1.2.2.1.2
          omega
        obtain ⟨q', hq', q1, q2, q3, q4⟩ := pnew j1
        have pn := (q4 j jl).2.2.2
        rw [e66] at pn
        exact Or.inr ⟨q', hq', q1.ty, pn⟩
  · rw [eo] at t
    rw [e66]
    exact h5 q hq t
  · rw [eo] at t1 t2
    rw [e66]
    exact h6 q hq p hp t1 t2 l
  · rw [eo, e54]
    obtain ⟨z1, z2, z3, z4, z5⟩ := h7 y hy
    exact ⟨z1, z2, z3, by omega, fun t => ⟨(z5 t).1, by have := (z5 t).2; omega⟩⟩
  · rw [e54]
    by_cases ci : i = i0
    · rw [ci, r52 i0 hi0]
      have := (h7 w hw).2.1
      omega
    · rw [n52 i (by omega)]
      exact h8.1 i (by omega) (by rw [eo] at hg9; exact hg9)
  · rw [eo] at gy
    exact flg.bo hj hb _ _ (h8.2 y hy gy b')
/-- where a jump's instruction lies: behind all that waits -/
def CFR (X : CS) (v : RS) (L : List CEL) (b20 : Int) (kk : Nat) : Prop := ∃ col : Nat → Option (Nat × Bool), COL X v L col b20 ∧ col kk = none ∧ (∀ (j : Nat) (x : Nat × Bool), col j = some x → j < kk) ∧ (∀ q ∈ L, X.o q.2.1 0 = 218 → (v.a 66 (ceT q)).toInt < (kk : Int)) ∧ (∀ q ∈ L, ∀ k : Int, PLF X v q k → k < (kk : Int))
set_option maxHeartbeats 1000000 in
theorem COR.jmp {d : Int32} {B : CS} {b : RS} {t0 : Nat} {L : List CEL} {x : Int} {X R : CS} {v u : RS} {c w : CEL} {bb : Int} {kk : Nat} (hC : COR d B b t0 (c :: L) x X v) (tX : TOP X v c) (lX : LOW X v c) (hB : BOT b X (c :: L)) (hB2 : BO2 B b X (c :: L)) (cq : CRQ X R) (hi : ∀ k : Nat, k ≠ 55 → R.i k = X.i k) (e55 : (R.i 55).toInt = (X.i 55).toInt + 1) (n52 : ∀ i : Nat, ¬ (i : Int) = (X.i 55).toInt → R.a 52 i = X.a 52 i) (r52 : ∀ i : Nat, (i : Int) = (X.i 55).toInt → (R.a 52 i).toInt = 2 * (X.o w.2.1 1).toInt + bb) (rt : RTE B R) (ev : ENV d R u) (ej : EJF v u) (hw : w ∈ c :: L) (gw : isGo (X.o w.2.1 0)) (hb : bb = 0 ∨ bb = 1) (hd : JHD w bb kk v u) (hj : JFL w bb v u ∨ JPD w bb v u) (hcol : CFR X v (c :: L) (b.i 20).toInt kk) (kr : (b.i 20).toInt ≤ (kk : Int) ∧ (kk : Int) < (v.i 20).toInt) : COR d B b t0 (c :: L) x R u ∧ TOP R u c ∧ LOW R u c := by
  obtain ⟨h1, h2, h3, h4, h5, ⟨h6, h7, h8, h9⟩, h10, h13, h14, h17, ⟨h18, h19, h20, -⟩⟩ := hC
  obtain ⟨cr, co, col', ca⟩ := id cq
  have sj := h1.sj
  have e54 := hi 54 (by decide)
  have ei := fun k hk => ej.1 k hk
  have eb := ej.2.2.1
  have ea := fun k hk => ej.A k hk
  have i20 := Int32.toInt_lt (v.i 20)
  have glc := STK.gl L c _ _ _ h2 hB
  have inj := STK.inj (c :: L) _ _ _ h2
  have gl : (b.i 43).toInt ≤ (ceG w : Int) := by
    exact STK.glb L c _ _ _ h2 hB w hw
  have jq := h3.jmp h2 tX hB2 h7 gl hw gw hb co e54 sj.2.2.1 e55 n52 r52 ej hj
  have eo : ∀ y ∈ c :: L, R.o y.2.1 = X.o y.2.1 := fun y _ => by rw [co]
  obtain ⟨d1, d2⟩ := DSM.eq (c :: L) eo
  obtain ⟨p1, p2, -⟩ := pnd.up hj (ea 66 (by decide))
  have ph : phI u = phI v := by
    unfold phI
    rw [ei 17 (by decide), ei 20 (by decide)]
  obtain ⟨col, c1, c2, cl, c3, c4⟩ := hcol
  refine ⟨⟨ev, ?_, jq, LBC.cq co (ea 46 (by decide)) _ _ h4, ?_, ⟨?_, ?_, ?_, ?_⟩, ?_, ?_, ?_, ?_, h18, h19, h20, ?_⟩, ⟨?_, ?_, ?_⟩, ?_⟩
  · rw [hi 22 (by decide), ei 24 (by decide), ei 33 (by decide)]
    exact STK.cq cq _ _ _ _ (STK.ej ej _ _ _ _ h2)
  · obtain ⟨a1, a2, a3, a4, a5, a6, a7, a8, a9, -, a11⟩ := h5
    unfold CBB
    rw [cr, co, col', ca, hi 53 (by decide), hi 22 (by decide), e54]
    refine ⟨a1, a2, a3, a4, a5, a6, by omega, fun k hk => ?_, fun k k1 k2 => ?_, rt, (hi 56 (by decide)).trans a11⟩
    · rw [n52 k (by omega)]
      exact a8 k hk
    · by_cases ck : (k : Int) = (X.i 55).toInt
      · rw [r52 k ck]
        have := BO2.ser L c _ _ _ h2 hB hB2 w hw gw
        exact Or.inr (by omega)
      · rw [n52 k ck]
        exact a9 k k1 (by omega)
  · intro j hj
    have z := h6 j hj
    rw [ea 64 (by decide), ea 65 (by decide), ea 66 (by decide), ea 67 (by decide), ea 68 (by decide), ea 69 (by decide), ea 70 (by decide), ea 71 (by decide), ea 72 (by decide), ea 73 (by decide), eb]
    exact z
  · obtain ⟨a1, a2, a3, q0, q1, q2, q3, q4, q5, q6, q7, q8, q9, q10⟩ := h7
    have hds : ∀ j : Nat, (j : Int) < (b.i 43).toInt → u.a 50 j = v.a 50 j ∧ u.a 51 j = v.a 51 j ∧ u.a 48 j = v.a 48 j ∧ u.a 49 j = v.a 49 j := fun j hj2 => by
      have nj : ¬ j = ceG w := by omega
      have f1 : u.a 48 j = v.a 48 j ∧ u.a 49 j = v.a 49 j := by
        rcases hb with z | z
        · obtain ⟨y1, y2, -⟩ := hd.1 z
          rw [y1, y2]
          exact ⟨updN nj, rfl⟩
        · obtain ⟨y1, y2, -⟩ := hd.2 z
          rw [y1, y2]
          exact ⟨rfl, updN nj⟩
      have f2 : u.a 50 j = v.a 50 j ∧ u.a 51 j = v.a 51 j := by
        rcases hj with ⟨-, -, -, j1, j2⟩ | ⟨-, ⟨j1, j2⟩, -⟩
        · rcases hb with z | z
          · obtain ⟨y1, y2⟩ := j1 z
            rw [y1, y2]
            exact ⟨updN nj, rfl⟩
          · obtain ⟨y1, y2⟩ := j2 z
            rw [y1, y2]
            exact ⟨rfl, updN nj⟩
        · rw [j1, j2]
          exact ⟨rfl, rfl⟩
      exact ⟨f2.1, f2.2, f1.1, f1.2⟩
    unfold TBB
    rw [ei 38 (by decide), ei 43 (by decide), ei 56 (by decide), ei 29 (by decide), ei 33 (by decide), ei 24 (by decide), eb, ea 40 (by decide), ea 41 (by decide), ea 44 (by decide), ea 46 (by decide), ea 47 (by decide), ea 57 (by decide), ea 58 (by decide), ea 30 (by decide), ea 34 (by decide), ea 37 (by decide), ea 25 (by decide), ea 27 (by decide), ea 28 (by decide)]
    refine ⟨a1, a2, a3, q0, fun j hj2 => ?_, q2, by omega, fun j hj2 => ?_, q5, q6, q7, q8, q9, q10⟩
    · obtain ⟨f1, f2, f3, f4⟩ := hds j hj2
      rw [f1, f2, f3, f4]
      exact q1 j hj2
    · obtain ⟨f1, f2, f3⟩ := p2 j (by omega)
      rw [f1, f2, f3]
      exact q4 j hj2
  · unfold CDK at *
    rw [ei 20 (by decide), ea 22 (by decide)]
    exact h8
  · rw [ei 2 (by decide), ei 3 (by decide), ei 8 (by decide), eb, ea 1 (by decide), ea 4 (by decide)]
    exact h9
  · rw [ei 11 (by decide), ei 17 (by decide), ei 19 (by decide), ph, d2, SSM.eo (c :: L) eo]
    exact h10
  · rw [hi 38 (by decide), d1]
    exact ⟨h13.1, h13.2.mv eo (hi 22 (by decide)) (by rw [hi 50 (by decide)]; exact Int.le_refl _) (fun y _ => ⟨by rw [ea 72 (by decide)], by rw [ea 67 (by decide)]⟩)⟩
  · rw [hi 21 (by decide), e54, ei 11 (by decide), ei 38 (by decide)]
    exact h14
  · unfold IAR at *
    rw [hi 56 (by decide), hi 53 (by decide), ei 43 (by decide), ea 44 (by decide), cr]
    exact h17
  · exact COL.jmp c1 co ej hb hd (by omega) c2 cl (fun q hq t z => by have := c3 q hq t; omega) (fun q hq z => by have := c4 q hq _ z; omega) kr h20 hw gw (fun y hy gy q => by
      have n1 := nGo1 gy
      have n2 := nGo1 gw
      rcases Nat.lt_trichotomy y.1 w.1 with z | z | z
      · have := (inj.2 y hy w hw z).2.1
        omega
      · exact inj.1 y hy w hw z
      · have := (inj.2 w hw y hy z).2.1
        omega)
  · rw [hi 53 (by decide)]
    exact tX.1
  · rw [ei 43 (by decide), co]
    exact tX.2.1
  · rw [ei 56 (by decide), co]
    exact tX.2.2
  · have z := lX.ej ej
    unfold LOW at *
    rw [co]
    exact z
