section
/-! both readers: sums and products -/
/-- the class's instruction for a sign -/
def OPT (c o : Int32) : Prop := (c = 42 ∧ o = 9) ∨ (c = 47 ∧ o = 10) ∨ (c = 37 ∧ o = 11) ∨ (c = 43 ∧ o = 7) ∨ (c = 45 ∧ o = 8)
def XOP (o v : Int32) : Prop := AOP o v ∨ DOP o v
theorem opt_tk {S : CS} {s : RS} {o : Int32} (h : TKR S s) (q : OPT (S.i 43) o) : XOP o (s.i 10) := by
  rcases q with ⟨a, b⟩ | ⟨a, b⟩ | ⟨a, b⟩ | ⟨a, b⟩ | ⟨a, b⟩
  · exact Or.inl (Or.inr (Or.inr ⟨b, (h.is (c := 42) (d := 42) (Or.inl ⟨by decide, by decide⟩) (by decide)).mp a⟩))
  · exact Or.inr (Or.inl ⟨b, (h.is (c := 47) (d := 47) (Or.inl ⟨by decide, by decide⟩) (by decide)).mp a⟩)
  · exact Or.inr (Or.inr ⟨b, (h.is (c := 37) (d := 37) (Or.inl ⟨by decide, by decide⟩) (by decide)).mp a⟩)
  · exact Or.inl (Or.inl ⟨b, (h.is (c := 43) (d := 43) (Or.inl ⟨by decide, by decide⟩) (by decide)).mp a⟩)
  · exact Or.inl (Or.inr (Or.inl ⟨b, (h.is (c := 45) (d := 45) (Or.inl ⟨by decide, by decide⟩) (by decide)).mp a⟩))
theorem gs_xop {FC : Nat → Prop} {s0 : CS} {r0 : RS} {nm : Nat → Nat → Prop} {X : Als} {p q h w g W : Nat} {c : List Ent} (pq : PQX s0 r0 p q) (k : HC0 nm h c) (e1 : XOP (s0.a 15 p) (r0.a 22 q)) (e2 : r0.a 21 q = 8) (ty : TYC s0 r0 (GU FC s0 r0 nm X) W c) (hW : W + 1 ≤ w) (z : GU FC s0 r0 nm X (p + 1) (q + 1) (h + 1) w 0 c) : GU FC s0 r0 nm X p q (h + 1 + 1) (w + 1) g c := by
  rcases e1 with e1 | e1
  · exact gs_ari pq k e1 e2 z
  · exact gs_div pq k e1 e2 ty hW z
/-- the loop's code: with state 2 the reference has yet to lay the sign's instruction -/
def LC2 (t : Nat) (U : RS) (S : CS) (s : RS) (R : CS) (u : RS) : Prop := ∃ Ψ : GPS, SAT Ψ S s R u ∧ ∀ (FC : Nat → Prop) (SF : CS) (nm : Nat → Nat → Prop) (X : Als) (c : List Ent) (h w W g0 P0 : Nat), Ψ FC nm → pcC S = P0 + 1 → XOP (SF.a 15 P0) (s.a 66 t) → P0 < 1200 → FGC S R SF → FGR s u U → NMG nm c S s → HC0 nm h c → ((2 * h + 3 + msr c : Nat) : Int) ≤ (s.i 11).toInt → TYC SF U (GU FC SF U nm X) W c → W + 1 ≤ w → GU FC SF U nm X (pcC R) (pcR u) (h + 1) w 0 c → GU FC SF U nm X P0 (pcR s) (h + 1 + 1) (w + (pcC R - pcC S) + 1) g0 c
def LCD (t : Nat) (U : RS) (S : CS) (s : RS) (R : CS) (u : RS) : Prop := CRB S → CD1 0 0 S R ∧ CT7 0 (S.i 21).toInt S R ∧ CD2 (s.i 20).toInt s u ∧ (s.a 65 t = 1 → RNY 1 1 (fun g => g = 0) 0 U S s R u) ∧ (s.a 65 t = 2 → LC2 t U S s R u)
/-- a loop of the class over parts, one turn -/
def LPA (N : Nat) (ops : Int32 → Prop) (E : CS → Option (Unit × CS)) (L : Nat → CS → Int32 → Option (Unit × CS)) : Prop := (∀ S x, L 0 S x = none) ∧ (∀ n S x R, L (n + 1) S x = some R → (((900 : Int32) ≤ x ∨ ¬ ops (S.i 43)) ∧ R = ((), S)) ∨ (¬ (900 : Int32) ≤ x ∧ ops (S.i 43) ∧ ∃ (o : Int32) (p q w : Unit × CS), f_X9_advance N S = some p ∧ E p.2 = some q ∧ f_X0_add N q.2 o 0 = some w ∧ L n w.2 (x + 1) = some R ∧ OPT (S.i 43) o)) ∧ (∀ n S x R, L n S x = some R → ¬ S.i 32 = 0 → ¬ R.2.i 32 = 0)
theorem fst_add {N : Nat} {S : CS} {o x : Int32} {R : Unit × CS} (e : f_X0_add N S o x = some R) : R.2.i 32 = S.i 32 := (pj2_eq (kd_X0_add N S o x R e)).2.1
/-- no sign of a byte stands behind the 900th -/
theorem no_900 {d : Int32} {S : CS} {s : RS} {x : Int32} (h : ENV d S s) (hx : x.toInt ≤ (s.i 11).toInt) (h9 : (900 : Int32) ≤ x) : S.i 43 = 0 := by
  have e9 : (900 : Int32).toInt = 900 := by decide
  have l := le_int h9
  obtain ⟨h1, -⟩ := h
  have lc := h1.2.2.2.2.2.2.1
  have k11 := h1.2.2.2.1.1
  by_cases c : S.i 43 = 0
  · exact c
  · have q := lc.2.2.2.1 c
    have q2 := lc.2.1
    have q3 := lc.1
    rw [k11] at q q2
    omega
theorem sx_loop {N : Nat} (hN : 1000 ≤ N) {K K2 : Int32} {ops : Int32 → Prop} {opr : Int32 → Prop} {E : CS → Option (Unit × CS)} {L : Nat → CS → Int32 → Option (Unit × CS)} (hE : SXR N K2 E) (hFE : ∀ S R, E S = some R → ¬ S.i 32 = 0 → ¬ R.2.i 32 = 0) (hL : LPA N ops E L) (h0 : ¬ ops 0) (hop : ∀ (S : CS) (s : RS), TKR S s → (ops (S.i 43) ↔ opr (s.i 10)))
    (hK : ∀ (n : Nat) (s U : RS) (t : Nat), f_X12_parse_10 N n s = some U → tpI s = t → s.i 15 = 0 → s.a 64 t = K → ∃ (m : Nat) (V : RS), ((opr (s.i 10) ∧ f_X12_sums N s (s.i 63) K2 1 = some V) ∨ (¬ opr (s.i 10) ∧ f_X12_sums N s (s.i 63) K2 0 = some V)) ∧ f_X12_parse_10 N m V = some U) :
    ∀ (n1 n t : Nat) (d x : Int32) (S : CS) (s U : RS) (R : Unit × CS) (φ : Int), ENV d S s → tpI s = t → s.a 64 t = K → (s.a 65 t = 1 ∨ s.a 65 t = 2) → (s.a 65 t = 1 → φ ≤ phI s) → (s.a 65 t = 2 → φ + 1 ≤ phI s) → 0 ≤ φ → 0 ≤ x.toInt → x.toInt ≤ (s.i 11).toInt → L n1 S x = some R → f_X12_parse_10 N n s = some U → (¬ R.2.i 32 = 0 ∧ ¬ U.i 15 = 0) ∨ ∃ (m : Nat) (u : RS), f_X12_parse_10 N m u = some U ∧ ENV d R.2 u ∧ tpI u = (t : Int) - 1 ∧ FRB t s u ∧ TBK s u ∧ CKX S R.2 ∧ (s.i 11).toInt ≤ (u.i 11).toInt ∧ φ ≤ phI u ∧ (s.i 17).toInt ≤ (u.i 17).toInt ∧ u.i 19 = s.i 19 ∧ LCD t U S s R.2 u := by
  intro n1
  induction n1 with
  | zero =>
    intro n t d x S s U R φ _ _ _ _ _ _ _ _ _ e
    rw [hL.1] at e
    cases e
  | succ n1 ih =>
    intro n t d x S s U R φ hv ht hk hs hp1 hp2 h9 hx0 hx e g
    have h15 := hv.1.2.1
    obtain ⟨m, V, hV, g2⟩ := hK n s U t g ht h15 hk
    have en := tp_nat ht
    have t9 : t < 1000 := by
      have := (rl_0 g ht h15).2.1.2
      have h2 : (s.i 63).toInt = (t : Int) := ht
      omega
    -- behind the instruction of the part before
    obtain ⟨s2, v2, k2, q2, p2, i2, z2, hV2⟩ : ∃ s2 : RS, ENV d S s2 ∧ TBK s s2 ∧ qj2 s2 = qj2 s ∧ φ ≤ phI s2 ∧ (s2.i 17 = s.i 17 ∧ s2.i 10 = s.i 10 ∧ s2.i 11 = s.i 11 ∧ s2.i 19 = s.i 19) ∧ (CD2 (s.i 20).toInt s s2 ∧ (s.a 65 t = 1 → s2 = s) ∧ (s.a 65 t = 2 → (s2.i 20).toInt = (s.i 20).toInt + 1 ∧ s2.a 21 (pcR s) = 8 ∧ s2.a 22 (pcR s) = s.a 66 t)) ∧ ((opr (s.i 10) ∧ f_X12_sums_39 N s2 (s.i 63) K2 1 = some V) ∨ (¬ opr (s.i 10) ∧ f_X12_sums_39 N s2 (s.i 63) K2 0 = some V)) := by
      have un : ∀ y : Int32, f_X12_sums N s (s.i 63) K2 y = some V → ∃ s2 : RS, ENV d S s2 ∧ TBK s s2 ∧ qj2 s2 = qj2 s ∧ φ ≤ phI s2 ∧ (s2.i 17 = s.i 17 ∧ s2.i 10 = s.i 10 ∧ s2.i 11 = s.i 11 ∧ s2.i 19 = s.i 19) ∧ (CD2 (s.i 20).toInt s s2 ∧ (s.a 65 t = 1 → s2 = s) ∧ (s.a 65 t = 2 → (s2.i 20).toInt = (s.i 20).toInt + 1 ∧ s2.a 21 (pcR s) = 8 ∧ s2.a 22 (pcR s) = s.a 66 t)) ∧ f_X12_sums_39 N s2 (s.i 63) K2 y = some V := fun y hy => by
        unfold f_X12_sums at hy
        obtain ⟨-, hy⟩ := hf_ite hy
        rw [en] at hy
        have n0 : ¬ s.a 65 t = 0 := fun q => by
          rcases hs with z | z <;> rw [z] at q <;> exact absurd q (by decide)
        rw [if_neg n0] at hy
        by_cases c : s.a 65 t = 2
        · rw [if_pos c] at hy
          obtain ⟨w, hw, hy⟩ := hf_bind hy
          obtain ⟨w1, w2, w3, w4, -, -⟩ := em_env hv (by have := hp2 c; omega) hw
          obtain ⟨-, e10, e11, -, -, -, -, e17, e19, -⟩ := qj2_eq w3
          have p20 := hv.p20
          obtain ⟨m1, -, m2, m3, m4, -⟩ := cd_emit hw p20.1 (by omega)
          exact ⟨w.2, w1, w2, w3, by have := hp2 c; omega, ⟨e17, e10, e11, e19⟩, ⟨m1, fun z => by rw [c] at z; exact absurd z (by decide), fun _ => ⟨m2, m3, m4⟩⟩, hy⟩
        · rw [if_neg c] at hy
          exact ⟨s, hv, TBK.rf s, rfl, hp1 (hs.resolve_right c), ⟨rfl, rfl, rfl, rfl⟩, ⟨CD2.rf _ s, fun _ => rfl, fun z => absurd z c⟩, hy⟩
      rcases hV with ⟨a, b⟩ | ⟨a, b⟩
      · obtain ⟨s2, z1, z2, z3, z4, z5, z7, z6⟩ := un 1 b
        exact ⟨s2, z1, z2, z3, z4, z5, z7, Or.inl ⟨a, z6⟩⟩
      · obtain ⟨s2, z1, z2, z3, z4, z5, z7, z6⟩ := un 0 b
        exact ⟨s2, z1, z2, z3, z4, z5, z7, Or.inr ⟨a, z6⟩⟩
    obtain ⟨kq, -, -, -, -, -, -, -, -, -⟩ := qj2_eq q2
    have e63 : s2.i 63 = s.i 63 := congrArg (fun v : QJT => v.1.2.2.2.2.2.2.2.2.2.2.2.2.2.2.2.2.1) kq
    have ht2 : tpI s2 = t := by
      show (s2.i 63).toInt = (t : Int)
      rw [e63]
      exact ht
    have fr2 : FRB (t + 1) s s2 := FRB.of kq
    have is := hop S s hv.1.2.2.2.1
    have stp : s.a 65 t = 2 → ∀ (u9 : RS) (FC : Nat → Prop) (SF : CS) (nm : Nat → Nat → Prop) (X : Als) (c : List Ent) (h w W g0 P0 : Nat), CD2 (s2.i 20).toInt s2 u9 → XOP (SF.a 15 P0) (s.a 66 t) → P0 < 1200 → FGR s u9 U → HC0 nm h c → TYC SF U (GU FC SF U nm X) W c → W + 1 ≤ w → GU FC SF U nm X (P0 + 1) (pcR s2) (h + 1) w 0 c → GU FC SF U nm X P0 (pcR s) (h + 1 + 1) (w + 1) g0 c := fun c2 u9 FC SF nm X c h w W g0 P0 y1 y2 y3 y4 y5 y6 y7 y8 => by
      obtain ⟨m2, m3, m4⟩ := z2.2.2 c2
      have p20 := hv.p20
      have pr : ((pcR s : Nat) : Int) = (s.i 20).toInt := Int.toNat_of_nonneg p20.1
      have pr2 : pcR s2 = pcR s + 1 := by
        unfold pcR
        rw [m2]
        omega
      obtain ⟨⟨f1, f2, f3⟩, f4, -⟩ := y4
      have y10 := y1.1.1
      have at1 := f4 (pcR s) (by omega) (by omega)
      have at2 := y1.2.1 (pcR s) (by omega)
      rw [pr2] at y8
      refine gs_xop ⟨y3, by omega, f3⟩ y5 ?_ ?_ y6 y7 y8
      · rw [at1.2.1, at2.2.1, m4]
        exact y2
      · rw [at1.1, at2.1, m3]
    rcases hL.2.1 n1 S x R e with ⟨hst, hR⟩ | ⟨h900, hops, o, p, q, w, e1, e2, e3, e4, eo⟩
    · -- no more of them
      have no : ¬ opr (s.i 10) := fun z => by
        have z' := is.mpr z
        rcases hst with c | c
        · rw [no_900 hv hx c] at z'
          exact h0 z'
        · exact c z'
      rcases hV2 with ⟨a, -⟩ | ⟨-, b⟩
      · exact absurd a no
      · unfold f_X12_sums_39 at b
        rw [if_pos rfl] at b
        cases b
        rw [hR]
        refine Or.inr ⟨m, _, g2, pop_env v2, tp_sub ht2 t9, (fr2.mo (by omega)).tr pop_frb, k2.tr pop_tbk, CKX.rf S, ?_, p2, ?_, i2.2.2.2, fun cr => ⟨CD1.rf S, CT7.rf _ _ S, z2.1.tr (CD2.qe rfl), fun c1 => ?_, fun c2 => ?_⟩⟩
        · show (s.i 11).toInt ≤ (s2.i 11).toInt
          rw [i2.2.2.1]
          exact Int.le_refl _
        · show (s.i 17).toInt ≤ (s2.i 17).toInt
          rw [i2.1]
          exact Int.le_refl _
        · refine ⟨GPS.tt, SAT.tt _ _ _ _ (z2.1.tr (CD2.qe rfl)).1.2.2.2.2.1, ?_⟩
          intro FC SF nm X c h w W g0 y0 y1 y2 y3 y4 y5 y6 y7 y8 y9
          have es := z2.2.1 c1
          rw [es] at y9
          rw [show g0 = 0 from y8, Nat.sub_self]
          exact y9
        · refine ⟨GPS.tt, SAT.tt _ _ _ _ (z2.1.tr (CD2.qe rfl)).1.2.2.2.2.1, ?_⟩
          intro FC SF nm X c h w W g0 P0 y0 y1 y2 y3 y4 y5 y6 y7 y8 y9 y10 y11
          rw [y1] at y11
          rw [Nat.sub_self]
          exact stp c2 _ FC SF nm X c h w W g0 P0 (CD2.qe rfl) y2 y3 y5 y7 y9 y10 y11
    · -- one more
      have yes := is.mp hops
      rcases hV2 with ⟨-, b⟩ | ⟨a, -⟩
      · unfold f_X12_sums_39 at b
        rw [if_neg n10] at b
        obtain ⟨-, b⟩ := hf_ite b
        obtain ⟨v6, b6, b⟩ := hf_bind b
        obtain ⟨v8, b8, b⟩ := hf_bind b
        cases b
        rw [en] at b6
        obtain ⟨s3, hs3⟩ : ∃ y, y = RS.setA s2 66 t (s2.i 10) := ⟨_, rfl⟩
        rw [← hs3] at b6
        have v3 : ENV d S s3 := by
          rw [hs3]
          exact v2.kq rfl rfl rfl rfl rfl rfl rfl rfl rfl rfl rfl rfl rfl rfl rfl rfl rfl rfl rfl rfl ⟨v2.2.2.2.2.2.2.1, v2.2.2.2.2.2.2.2.1⟩ (v2.wp.of (Int.le_refl _) rfl rfl rfl rfl rfl)
        have k3 : TBK s2 s3 := by
          rw [hs3]
          exact ⟨⟨⟨rfl, rfl, rfl, rfl, rfl, rfl, rfl, rfl, rfl, rfl⟩, fun _ _ => ⟨rfl, rfl, rfl⟩, fun _ _ => ⟨rfl, rfl, rfl, rfl, rfl, rfl, rfl, rfl⟩, fun _ _ => ⟨rfl, rfl⟩, ⟨Int.le_refl _, fun j h1 h2 => absurd (show (j : Int) < (s2.i 59).toInt from h2) (by omega)⟩, fun _ _ => ⟨rfl, rfl, rfl⟩, Int.le_refl _, fun _ _ => rfl, Int.le_refl _, fun _ _ => ⟨rfl, rfl⟩, Int.le_refl _, fun _ _ => ⟨rfl, rfl, rfl⟩⟩, Int.le_refl _, fun _ _ => rfl⟩
        have f3 : FRB t s2 s3 := by
          rw [hs3]
          exact fun j hj => ⟨rfl, rfl, if_neg (by omega), rfl, rfl, rfl, rfl, rfl, rfl, rfl, rfl⟩
        have f3k : s3.a 64 t = K := by
          rw [hs3]
          show s2.a 64 t = K
          rw [(fr2 t (by omega)).1]
          exact hk
        have t3 : tpI s3 = t := by
          rw [hs3]
          exact ht2
        have i3 : s3.i 17 = s2.i 17 ∧ s3.i 11 = s2.i 11 ∧ s3.i 20 = s2.i 20 ∧ s3.i 19 = s2.i 19 := by
          rw [hs3]
          exact ⟨rfl, rfl, rfl, rfl⟩
        have qe3 : qe s3 = qe s2 := by
          rw [hs3]
          rfl
        have f366 : s3.a 66 t = s2.i 10 := by
          rw [hs3]
          exact if_pos rfl
        clear hs3
        have nz : ¬ S.i 43 = 0 := fun z => by
          rw [z] at hops
          exact h0 hops
        obtain ⟨v4, n1', n2', n3', n4', n5', n6', n7', n8', n9'⟩ := v3.adv hN nz e1 b6
        have t4 : tpI v6 = t := by
          have e : v6.i 63 = s3.i 63 := congrArg (fun v : QJT => v.1.2.2.2.2.2.2.2.2.2.2.2.2.2.2.2.2.1) n1'
          show (v6.i 63).toInt = (t : Int)
          rw [e]
          exact t3
        obtain ⟨b8', t99⟩ := r_then t4 b8
        have f4 : FRB (t + 1) s3 v6 := FRB.of n1'
        have k4 : TBK s3 v6 := TBK.of n1' (by rw [n5']; exact Int.le_refl _) (fun j _ => by rw [n6'])
        have ck1 : CKX S p.2 := CKX.of n2' n7' n8'
        have t17 : (v6.i 17).toInt = (s.i 17).toInt + 1 := by
          rw [n3', i3.1, i2.1]
          obtain ⟨h1, -, -, -, -, -, ⟨r1, r2, r3, r4, r5, -⟩⟩ := id hv
          have b5 := h1.2.2.2.2.1
          have b3 := h1.2.2.1.2.1
          have e1' : (1 : Int32).toInt = 1 := by decide
          have lc := h1.2.2.2.2.2.2.1.2.1
          have k11 := h1.2.2.2.1.1
          have k12 := h1.2.2.2.1.2.1
          rw [k11, k12] at lc
          unfold phI at r2
          rw [toInt_add] <;> rw [e1'] <;> omega
        have p4 : φ + 3 ≤ phI v6 := by
          unfold phI at p2 ⊢
          rw [n5', i3.2.2.1, t17]
          rw [i2.1] at p2
          omega
        have n4'' : (s.i 11).toInt + 1 ≤ (v6.i 11).toInt := by
          rw [i3.2.1, i2.2.2.1] at n4'
          exact n4'
        rw [b8'] at g2
        rcases hE d p.2 (TH v6 t 2 K2) U m (t + 1) q v4.th (TH.tp t4 (by omega)) TH.fk TH.fs (show 3 ≤ phI v6 by omega) e2 g2 with ⟨x1, x2⟩ | ⟨m2, u, g3, xo, xc⟩
        · left
          refine ⟨hL.2.2 n1 w.2 (x + 1) R e4 ?_, x2⟩
          rw [fst_add e3]
          exact x1
        · obtain ⟨o1, o2, o3, o4, o5, o6, o7, o8, o9⟩ := xo
          have k7 := kd_X0_add N q.2 o 0 w e3
          have v7 : ENV d w.2 u := o1.kd k7
          obtain ⟨kp7, -, -, -, e22, -, -, -, -, -, -, e18⟩ := pj2_eq k7
          have ck7 : CKX q.2 w.2 := CKX.of kp7 e22 e18
          have u64 : u.a 64 t = K := by
            rw [(o3 t (by omega)).1, TH.fk0 (Nat.le_refl t), (f4 t (by omega)).1]
            exact f3k
          have u65 : u.a 65 t = 2 := by
            rw [(o3 t (by omega)).2.1]
            exact TH.st
          have tu : tpI u = t := by
            rw [o2]
            omega
          have o6' : (v6.i 11).toInt + 1 ≤ (u.i 11).toInt := o6
          have o7' : phI v6 + 1 ≤ phI u := o7
          have o8' : (v6.i 17).toInt + 1 ≤ (u.i 17).toInt := o8
          have o9' : u.i 19 = v6.i 19 := o9
          have x1 : (x + 1).toInt = x.toInt + 1 := ad1 hx0 (by
            obtain ⟨h1, -⟩ := hv
            have b5 := h1.2.2.2.2.1
            have b3 := h1.2.2.1.2.1
            have lc := h1.2.2.2.2.2.2.1.2.1
            have k11 := h1.2.2.2.1.1
            have k12 := h1.2.2.2.1.2.1
            rw [k11, k12] at lc
            omega)
          have fT : FRB t v6 (TH v6 t 2 K2) := TH.frb
          have sm : FRB t s u := ((((fr2.mo (by omega)).tr f3).tr (f4.mo (by omega))).tr fT).tr (o3.mo (by omega))
          have km : TBK s u := (((k2.tr k3).tr k4).tr TH.tbk).tr o4
          rcases ih m2 t d (x + 1) w.2 u U R φ v7 tu u64 (Or.inr u65) (fun z => by rw [u65] at z; exact absurd z (by decide)) (fun _ => by omega) h9 (by omega) (by omega) e4 g3 with z | ⟨m3, u3, y1, y2, y3, y4, y5, y6, y7, y8, y9, y10, y11⟩
          · exact Or.inl z
          · refine Or.inr ⟨m3, u3, y1, y2, y3, sm.tr y4, km.tr y5, ((ck1.tr o5).tr ck7).tr y6, by omega, y8, by omega, y10.trans (o9'.trans (n9'.trans (i3.2.2.2.trans i2.2.2.2))), fun cr => ?_⟩
            obtain ⟨a1, a2, a3, a4, a5, a6, a7⟩ := adv_cd hN v3 nz e1 b6
            have crp : CRB p.2 := cr.of a1 (by omega) (by omega)
            obtain ⟨b1, b2, b3, b4⟩ := xc crp
            have crq : CRB q.2 := crp.of b1 (by omega) (by omega)
            have q44 := o1.p44
            have q44' : (q.2.i 44).toInt = (u.i 11).toInt := by rw [q44.1]
            obtain ⟨d1, d2, ⟨d3, d3'⟩, d4, d5, d6⟩ := cd_add e3 crq.1.1 (by have := crq.1.2; omega)
            have c0w : CD1 0 (-2) S w.2 := ((a1.tr b1).tr d1).wk (by omega) (by omega)
            have crw : CRB w.2 := cr.of c0w (by omega) (by omega)
            obtain ⟨g1, g2', g3', -, g5⟩ := y11 crw
            have g5' := g5 u65
            have cqR : CD1 1 0 q.2 R.2 := (d1.tr g1).wk (by omega) (by omega)
            have e20s : (TH v6 t 2 K2).i 20 = s2.i 20 := (a6.trans i3.2.2.1 : v6.i 20 = s2.i 20)
            have m23 : ∀ c : Int, CD2 c s2 (TH v6 t 2 K2) := fun c => ((CD2.qe qe3).tr (a3 c)).tr (CD2.qe rfl)
            have m2u : CD2 (s2.i 20).toInt s2 u := (m23 _).tr (b3.wk (by rw [e20s]; exact Int.le_refl _))
            have l2 := z2.1.1.1
            have mu3 : CD2 (s2.i 20).toInt s2 u3 := m2u.tr (g3'.wk m2u.1.1)
            have su : CD2 (s.i 20).toInt s u := z2.1.tr (m2u.wk l2)
            have tRq : CT7 0 (q.2.i 21).toInt q.2 R.2 := (CT7.eq d4).tr (g2'.wk (by omega) (by rw [d5]; exact Int.le_refl _))
            have kT : TBK s (TH v6 t 2 K2) := ((k2.tr k3).tr k4).tr TH.tbk
            have n50 := hv.2.1.1
            have x66 : u.a 66 t = s.i 10 := by
              rw [(o3 t (by omega)).2.2.1]
              show v6.a 66 t = s.i 10
              rw [(f4 t (by omega)).2.2.1, f366, i2.2.1]
            have ox := opt_tk hv.1.2.2.2.1 eo
            have pS : ((pcC S : Nat) : Int) = (S.i 20).toInt := Int.toNat_of_nonneg cr.1.1
            have pp : pcC p.2 = pcC S := by unfold pcC; rw [a4]
            have pq : ((pcC q.2 : Nat) : Int) = (q.2.i 20).toInt := Int.toNat_of_nonneg crq.1.1
            have pw : pcC w.2 = pcC q.2 + 1 := by
              unfold pcC
              rw [d2]
              have := crq.1.1
              omega
            have pR : ((pcC R.2 : Nat) : Int) = (R.2.i 20).toInt := Int.toNat_of_nonneg (by have := g1.1.1; have := crw.1.1; omega)
            have lqR := cqR.1.1
            have lSq : (S.i 20).toInt ≤ (q.2.i 20).toInt := by have := b1.1.1; rw [a4] at this; exact this
            obtain ⟨Ψ1, sat1, b4⟩ := b4
            obtain ⟨Ψ2, sat2, g5'⟩ := g5'
            have satc : SAT (GPS.an Ψ1 Ψ2) S s R.2 u3 := (sat1.wd (MNO.of a1 (z2.1.tr (m23 _))) (MNO.of d1 (CD2.rf 0 u))).an sat2 (MNO.of c0w su) (MNO.of g1 g3')
            have core : ∀ (FC : Nat → Prop) (SF : CS) (nm : Nat → Nat → Prop) (X : Als) (c : List Ent) (h w1 W g0 : Nat), GPS.an Ψ1 Ψ2 FC nm → FGC S R.2 SF → FGR s u3 U → NMG nm c S s → HC0 nm h c → ((2 * h + 1 + msr c : Nat) : Int) ≤ (s.i 11).toInt → TYC SF U (GU FC SF U nm X) W c → W + 1 ≤ w1 → GU FC SF U nm X (pcC R.2) (pcR u3) (h + 1) w1 0 c → GU FC SF U nm X (pcC S) (pcR s2) (h + 1) (w1 + (pcC R.2 - pcC S)) g0 c := by
              intro FC SF nm X c h w1 W g0 ps fc fr ng hc hh ty hW z
              have hw20 := d2
              have l20 := g1.1.1
              have f15 : SF.a 15 (pcC q.2) = o := by
                rw [(fc.2.1 (pcC q.2) (by omega) (by omega)).1, (g1.2.1 (pcC q.2) (by omega)).1]
                exact d3
              have z1 := g5' FC SF nm X c h w1 W 0 (pcC q.2) ps.2 pw (by rw [f15, x66]; exact ox) (by have := crq.1.2; omega) (fc.sub c0w (CD1.rf R.2) (CT7.rf _ _ R.2)) (fr.sub su (CD2.rf 0 u3) (fun _ _ _ => ⟨rfl, rfl, rfl⟩)) (ng.mv n50 c0w su km.1.1.2.2.2.1 (fun j hj => (km.1.2.1 j hj).2.1) (by rw [o9'.trans (n9'.trans (i3.2.2.2.trans i2.2.2.2))]; exact Int.le_refl _)) hc (by omega) ty hW z
              have z2' := b4 FC SF nm X c (h + 1) (w1 + (pcC R.2 - pcC w.2) + 1) W g0 ps.1 (fc.sub a1 cqR (tRq.wk (by have := crp.2.1; omega) (Int.le_refl _))) (fr.sub (z2.1.tr (m23 _)) g3' (g3'.c3 (Int.le_refl _))) (ng.mv n50 a1 (z2.1.tr (m23 _)) kT.1.1.2.2.2.1 (fun j hj => (kT.1.2.1 j hj).2.1) (show (s.i 19).toInt ≤ (v6.i 19).toInt by rw [n9'.trans (i3.2.2.2.trans i2.2.2.2)]; exact Int.le_refl _)) (hc.up (by omega)) (show ((2 * (h + 1) + 0 + msr c : Nat) : Int) ≤ (v6.i 11).toInt by omega) ty (by omega) True.intro z1
              rw [pp] at z2'
              rw [show pcR (TH v6 t 2 K2) = pcR s2 by unfold pcR; rw [e20s]] at z2'
              rw [show w1 + (pcC R.2 - pcC S) = w1 + (pcC R.2 - pcC w.2) + 1 + (pcC q.2 - pcC S) by omega]
              exact z2'
            refine ⟨(c0w.tr g1).wk (by omega) (by omega), ((a2 _ _).tr (b2.wk (Int.le_refl _) (by rw [a5]; exact Int.le_refl _))).tr (tRq.wk (Int.le_refl _) (by have := b1.2.2.1; rw [a5] at this; exact this)), z2.1.tr (mu3.wk l2), fun c1 => ?_, fun c2 => ?_⟩
            · refine ⟨_, satc, ?_⟩
              intro FC SF nm X c h w1 W g0 h0 h1 h2 h3 h4 h5 h6 h7 h8 h9
              have z := core FC SF nm X c h w1 W g0 h0 h1 h2 h3 h4 h5 h6 h7 h9
              rw [z2.2.1 c1] at z
              exact z
            · refine ⟨_, satc, ?_⟩
              intro FC SF nm X c h w1 W g0 P0 h0 h1 h2 h3 h4 h5 h6 h7 h8 h9 h10 h11
              have z := core FC SF nm X c h w1 W 0 h0 h4 h5 h6 h7 (by omega) h9 h10 h11
              rw [h1] at z ⊢
              exact stp c2 u3 FC SF nm X c h _ W g0 P0 mu3 h2 h3 h5 h7 h9 (by omega) z
      · exact absurd yes a
end
section
/-! both readers: sums and products, whole -/
theorem sx_sum {N : Nat} (hN : 1000 ≤ N) {K K2 : Int32} {ops : Int32 → Prop} {opr : Int32 → Prop} {E : CS → Option (Unit × CS)} {L : Nat → CS → Int32 → Option (Unit × CS)} (hE : SXR N K2 E) (hFE : ∀ S R, E S = some R → ¬ S.i 32 = 0 → ¬ R.2.i 32 = 0) (hL : LPA N ops E L) (h0 : ¬ ops 0) (hop : ∀ (S : CS) (s : RS), TKR S s → (ops (S.i 43) ↔ opr (s.i 10)))
    (hK : ∀ (n : Nat) (s U : RS) (t : Nat), f_X12_parse_10 N n s = some U → tpI s = t → s.i 15 = 0 → s.a 64 t = K → ∃ (m : Nat) (V : RS), ((opr (s.i 10) ∧ f_X12_sums N s (s.i 63) K2 1 = some V) ∨ (¬ opr (s.i 10) ∧ f_X12_sums N s (s.i 63) K2 0 = some V)) ∧ f_X12_parse_10 N m V = some U) : SXR N K (fun S => (E S).bind fun p => L N p.2 0) := by
  intro d S s U n t R hv ht hk hs h3 e g
  obtain ⟨p, e1, e2⟩ := hf_bind e
  have h15 := hv.1.2.1
  have en := tp_nat ht
  obtain ⟨m, V, hV, g2⟩ := hK n s U t g ht h15 hk
  have un : ∀ y : Int32, f_X12_sums N s (s.i 63) K2 y = some V → V = TH s t 1 K2 ∧ t + 1 < 1000 := fun y hy => by
    unfold f_X12_sums at hy
    obtain ⟨-, hy⟩ := hf_ite hy
    rw [en, if_pos hs, ob_id] at hy
    exact r_then ht hy
  have hV' : V = TH s t 1 K2 ∧ t + 1 < 1000 := by
    rcases hV with ⟨-, b⟩ | ⟨-, b⟩
    · exact un 1 b
    · exact un 0 b
  obtain ⟨hV', t9⟩ := hV'
  rw [hV'] at g2
  have r0 := hv.2.2.2.2.2.2.2.1
  rcases hE d S (TH s t 1 K2) U m (t + 1) p hv.th (TH.tp ht (by omega)) TH.fk TH.fs (show 3 ≤ phI s from h3) e1 g2 with ⟨x1, x2⟩ | ⟨m2, u, g3, xo, xc⟩
  · exact Or.inl ⟨hL.2.2 N p.2 0 R e2 x1, x2⟩
  · obtain ⟨o1, o2, o3, o4, o5, o6, o7, o8, o9⟩ := xo
    have u64 : u.a 64 t = K := by
      rw [(o3 t (by omega)).1, TH.fk0 (Nat.le_refl t)]
      exact hk
    have u65 : u.a 65 t = 1 := by
      rw [(o3 t (by omega)).2.1]
      exact TH.st
    have tu : tpI u = t := by
      rw [o2]
      omega
    have o6' : (s.i 11).toInt + 1 ≤ (u.i 11).toInt := o6
    have o7' : phI s + 1 ≤ phI u := o7
    have o8' : (s.i 17).toInt + 1 ≤ (u.i 17).toInt := o8
    have o9' : u.i 19 = s.i 19 := o9
    have u0 : 0 ≤ (u.i 11).toInt := by
      have lc := hv.1.2.2.2.2.2.2.1.2.1
      have k11 := hv.1.2.2.2.1.1
      rw [k11] at lc
      omega
    rcases sx_loop hN hE hFE hL h0 hop hK N m2 t d 0 p.2 u U R (phI s + 1) o1 tu u64 (Or.inl u65) (fun _ => o7') (fun z => by rw [u65] at z; exact absurd z (by decide)) (by omega) (by decide) (by rw [z_t0]; exact u0) e2 g3 with z | ⟨m3, u3, y1, y2, y3, y4, y5, y6, y7, y8, y9, y10, y11⟩
    · exact Or.inl z
    · refine Or.inr ⟨m3, u3, y1, ⟨y2, y3, (TH.frb.tr (o3.mo (by omega))).tr y4, (TH.tbk.tr o4).tr y5, o5.tr y6, by omega, y8, by omega, y10.trans o9'⟩, fun cr => ?_⟩
      obtain ⟨b1, b2, b3, b4⟩ := xc cr
      have crp : CRB p.2 := cr.of b1 (by omega) (by omega)
      obtain ⟨d1, d2, d3, d4, -⟩ := y11 crp
      have d4' := d4 u65
      have su : CD2 (s.i 20).toInt s u := (CD2.qe rfl).tr b3
      have kT : TBK s u := TH.tbk.tr o4
      have l20 := b1.1.1
      have l20' := d1.1.1
      have pS : ((pcC S : Nat) : Int) = (S.i 20).toInt := Int.toNat_of_nonneg cr.1.1
      have pp : ((pcC p.2 : Nat) : Int) = (p.2.i 20).toInt := Int.toNat_of_nonneg crp.1.1
      have pR : ((pcC R.2 : Nat) : Int) = (R.2.i 20).toInt := Int.toNat_of_nonneg (by have := crp.1.1; omega)
      refine ⟨(b1.tr d1).wk (by omega) (by omega), b2.tr (d2.wk (Int.le_refl _) b1.2.2.1), su.tr (d3.wk su.1.1), ?_⟩
      obtain ⟨Ψ1, sat1, b4⟩ := b4
      obtain ⟨Ψ2, sat2, d4'⟩ := d4'
      refine ⟨_, (sat1.wd (MNO.of (CD1.rf S) (CD2.qe rfl : CD2 0 s (TH s t 1 K2))) (MNO.of (CD1.rf p.2) (CD2.rf 0 u))).an sat2 (MNO.of b1 su) (MNO.of d1 d3), ?_⟩
      intro FC SF nm X c h w W g0 ps fc fr ng hc hh ty hW hg z
      have z1 := d4' FC SF nm X c h w W 0 ps.2 (fc.sub b1 (CD1.rf R.2) (CT7.rf _ _ R.2)) (fr.sub su (CD2.rf 0 u3) (fun _ _ _ => ⟨rfl, rfl, rfl⟩)) (ng.mv hv.2.1.1 b1 su kT.1.1.2.2.2.1 (fun j hj => (kT.1.2.1 j hj).2.1) (by rw [o9']; exact Int.le_refl _)) hc (by omega) ty hW rfl z
      have z2 := b4 FC SF nm X c h (w + (pcC R.2 - pcC p.2)) W g0 ps.1 (fc.sub (CD1.rf S) d1 (d2.wk cr.2.1 (Int.le_refl _))) (fr.sub (CD2.qe rfl : CD2 0 s (TH s t 1 K2)) d3 (d3.c3 (Int.le_refl _))) (ng.mv hv.2.1.1 (CD1.rf S) (CD2.qe rfl : CD2 0 s (TH s t 1 K2)) rfl (fun _ _ => rfl) (Int.le_refl _)) hc hh ty (by omega) True.intro z1
      rw [show w + (pcC R.2 - pcC S) = w + (pcC R.2 - pcC p.2) + (pcC p.2 - pcC S) by omega]
      exact z2
theorem lpa_prod {N : Nat} {E1 : CS → Option (Unit × CS)} {E2 : CS → Option (Int32 × CS)} (hm1 : ∀ σ, Kf (CS.i σ 32) (E1 σ)) (hm2 : ∀ σ, Kf (CS.i σ 32) (E2 σ)) : LPA N (fun c => c = 42 ∨ c = 47 ∨ c = 37) E1 (f_X1_product_6 N E1 E2) := by
  refine ⟨fun _ _ => rfl, fun n S x R e => ?_, fun n S x R e h => by rw [kF_X1_product_6 N E1 E2 hm1 hm2 n S x R e h]; exact h⟩
  have e' : b_X1_product_6 N E1 E2 (f_X1_product_6 N E1 E2 n) S x = some R := e
  unfold b_X1_product_6 at e'
  by_cases c9 : (900 : Int32) ≤ x
  · rw [if_pos c9] at e'
    cases e'
    exact Or.inl ⟨Or.inl c9, rfl⟩
  · rw [if_neg c9] at e'
    by_cases c42 : S.i 43 = 42
    · rw [e_fnd1 c42, ob_some, if_neg n10, e_fnd1 c42, ob_some, if_neg n10] at e'
      obtain ⟨p, e1, e'⟩ := hf_bind e'
      obtain ⟨q, e2, e'⟩ := hf_bind e'
      obtain ⟨w, e3, e'⟩ := hf_bind e'
      exact Or.inr ⟨c9, Or.inl c42, _, p, q, w, e1, e2, e3, e', Or.inl ⟨c42, rfl⟩⟩
    · rw [e_fnd0 c42, ob_some, if_pos rfl] at e'
      by_cases c47 : S.i 43 = 47
      · rw [e_fnd1 c47, ob_some, if_neg n10, e_fnd0 c42, ob_some, if_pos rfl, e_fnd1 c47, ob_some, if_neg n10] at e'
        obtain ⟨p, e1, e'⟩ := hf_bind e'
        obtain ⟨q, e2, e'⟩ := hf_bind e'
        obtain ⟨w, e3, e'⟩ := hf_bind e'
        exact Or.inr ⟨c9, Or.inr (Or.inl c47), _, p, q, w, e1, e2, e3, e', Or.inr (Or.inl ⟨c47, rfl⟩)⟩
      · rw [e_fnd0 c47, ob_some, if_pos rfl] at e'
        by_cases c37 : S.i 43 = 37
        · rw [e_fnd1 c37, ob_some, if_neg n10, e_fnd0 c42, ob_some, if_pos rfl, e_fnd0 c47, ob_some, if_pos rfl] at e'
          obtain ⟨p, e1, e'⟩ := hf_bind e'
          obtain ⟨q, e2, e'⟩ := hf_bind e'
          obtain ⟨w, e3, e'⟩ := hf_bind e'
          exact Or.inr ⟨c9, Or.inr (Or.inr c37), _, p, q, w, e1, e2, e3, e', Or.inr (Or.inr (Or.inl ⟨c37, rfl⟩))⟩
        · rw [e_fnd0 c37, ob_some, if_pos rfl] at e'
          cases e'
          exact Or.inl ⟨Or.inr (fun z => z.elim c42 (fun z => z.elim c47 c37)), rfl⟩
theorem lpa_expr {N : Nat} {E1 : CS → Option (Unit × CS)} {E2 : CS → Option (Int32 × CS)} (hm1 : ∀ σ, Kf (CS.i σ 32) (E1 σ)) (hm2 : ∀ σ, Kf (CS.i σ 32) (E2 σ)) : LPA N (fun c => c = 43 ∨ c = 45) (f_X1_product N E1 E2) (f_X1_expression_6 N E1 E2) := by
  refine ⟨fun _ _ => rfl, fun n S x R e => ?_, fun n S x R e h => by rw [kF_X1_expression_6 N E1 E2 hm1 hm2 n S x R e h]; exact h⟩
  have e' : b_X1_expression_6 N E1 E2 (f_X1_expression_6 N E1 E2 n) S x = some R := e
  unfold b_X1_expression_6 at e'
  by_cases c9 : (900 : Int32) ≤ x
  · rw [if_pos c9] at e'
    cases e'
    exact Or.inl ⟨Or.inl c9, rfl⟩
  · rw [if_neg c9] at e'
    by_cases c43 : S.i 43 = 43
    · rw [e_fnd1 c43, ob_some, if_neg n10, e_fnd1 c43, ob_some, if_neg n10] at e'
      obtain ⟨p, e1, e'⟩ := hf_bind e'
      obtain ⟨q, e2, e'⟩ := hf_bind e'
      obtain ⟨w, e3, e'⟩ := hf_bind e'
      exact Or.inr ⟨c9, Or.inl c43, _, p, q, w, e1, e2, e3, e', Or.inr (Or.inr (Or.inr (Or.inl ⟨c43, rfl⟩)))⟩
    · rw [e_fnd0 c43, ob_some, if_pos rfl] at e'
      by_cases c45 : S.i 43 = 45
      · rw [e_fnd1 c45, ob_some, if_neg n10, e_fnd0 c43, ob_some, if_pos rfl] at e'
        obtain ⟨p, e1, e'⟩ := hf_bind e'
        obtain ⟨q, e2, e'⟩ := hf_bind e'
        obtain ⟨w, e3, e'⟩ := hf_bind e'
        exact Or.inr ⟨c9, Or.inr c45, _, p, q, w, e1, e2, e3, e', Or.inr (Or.inr (Or.inr (Or.inr ⟨c45, rfl⟩)))⟩
      · rw [e_fnd0 c45, ob_some, if_pos rfl] at e'
        cases e'
        exact Or.inl ⟨Or.inr (fun z => z.elim c43 c45), rfl⟩
theorem sx_product {N : Nat} (hN : 1000 ≤ N) {E1 : CS → Option (Unit × CS)} {E2 : CS → Option (Int32 × CS)} (hm1 : ∀ σ, Kf (CS.i σ 32) (E1 σ)) (hm2 : ∀ σ, Kf (CS.i σ 32) (E2 σ)) (hE : SXR N 18 E1) : SXR N 17 (f_X1_product N E1 E2) := by
  refine sx_sum hN (opr := fun c => c = 42 ∨ c = 47 ∨ c = 37) hE (fun S R e h => by rw [hm1 S R e h]; exact h) (lpa_prod hm1 hm2) (by decide) (fun S s h => ?_) (fun n s U t g ht h15 hk => rl_17 g ht h15 hk)
  rw [h.is (c := 42) (d := 42) (Or.inl ⟨by decide, by decide⟩) (by decide), h.is (c := 47) (d := 47) (Or.inl ⟨by decide, by decide⟩) (by decide), h.is (c := 37) (d := 37) (Or.inl ⟨by decide, by decide⟩) (by decide)]
theorem sx_expression {N : Nat} (hN : 1000 ≤ N) {E1 : CS → Option (Unit × CS)} {E2 : CS → Option (Int32 × CS)} (hm1 : ∀ σ, Kf (CS.i σ 32) (E1 σ)) (hm2 : ∀ σ, Kf (CS.i σ 32) (E2 σ)) (hE : SXR N 18 E1) : SXR N 16 (f_X1_expression N E1 E2) := by
  refine sx_sum hN (opr := fun c => c = 43 ∨ c = 45) (sx_product hN hm1 hm2 hE) (fun S R e h => by rw [kF_X1_product N E1 E2 hm1 hm2 S R e h]; exact h) (lpa_expr hm1 hm2) (by decide) (fun S s h => ?_) (fun n s U t g ht h15 hk => rl_16 g ht h15 hk)
  rw [h.is (c := 43) (d := 43) (Or.inl ⟨by decide, by decide⟩) (by decide), h.is (c := 45) (d := 45) (Or.inl ⟨by decide, by decide⟩) (by decide)]
end
section
/-! both readers: && and || -/
/-- a condition: also whether it is just true -/
def SXN (N : Nat) (K : Int32) (E : CS → Option (Int32 × CS)) : Prop := ∀ (d : Int32) (S : CS) (s U : RS) (n t : Nat) (R : Int32 × CS), ENV d S s → tpI s = t → s.a 64 t = K → s.a 65 t = 0 → 3 ≤ phI s → E S = some R → f_X12_parse_10 N n s = some U → (¬ R.2.i 32 = 0 ∧ ¬ U.i 15 = 0) ∨ ∃ (m : Nat) (u : RS), f_X12_parse_10 N m u = some U ∧ XO d t S s R.2 u ∧ (R.1 = 0 ∨ R.1 = 1) ∧ (R.1 = 1 ↔ (s.i 10 = 432 ∧ (u.i 17).toInt = (s.i 17).toInt + 1)) ∧ (CDE 2 U S s R.2 u ∧ (R.1 = 1 → CDE 4 U S s R.2 u))
def LPB (N : Nat) (c o : Int32) (E : CS → Option (Int32 × CS)) (L : Nat → CS → Int32 → Int32 → Option (Int32 × CS)) : Prop := (∀ S y x, L 0 S y x = none) ∧ (∀ n S y x R, L (n + 1) S y x = some R → (((900 : Int32) ≤ x ∨ ¬ S.i 43 = c) ∧ ∃ w : Unit × CS, f_X0_aim N S y = some w ∧ R = (0, w.2)) ∨ (¬ (900 : Int32) ≤ x ∧ S.i 43 = c ∧ ∃ (p w : Unit × CS) (q : Int32 × CS), f_X9_advance N S = some p ∧ f_X0_add N p.2 o y = some w ∧ E w.2 = some q ∧ L n q.2 y (x + 1) = some R)) ∧ (∀ n S y x R, L n S y x = some R → ¬ S.i 32 = 0 → ¬ R.2.i 32 = 0)
theorem t17_up {N : Nat} {d : Int32} {S : CS} {s : RS} (hv : ENV d S s) : (s.i 17 + 1).toInt = (s.i 17).toInt + 1 := by
  obtain ⟨h1, -, -, -, -, -, ⟨r1, r2, r3, r4, r5, -⟩⟩ := hv
  have b5 := h1.2.2.2.2.1
  have b3 := h1.2.2.1.2.1
  have e1' : (1 : Int32).toInt = 1 := by decide
  have lc := h1.2.2.2.2.2.2.1.2.1
  have k11 := h1.2.2.2.1.1
  have k12 := h1.2.2.2.1.2.1
  rw [k11, k12] at lc
  unfold phI at r2
  rw [toInt_add] <;> rw [e1'] <;> omega
theorem i11_hi {d : Int32} {S : CS} {s : RS} (hv : ENV d S s) : 0 ≤ (s.i 11).toInt ∧ (s.i 11).toInt ≤ 900 := by
  obtain ⟨h1, -⟩ := hv
  have b5 := h1.2.2.2.2.1
  have b3 := h1.2.2.1.2.1
  have lc := h1.2.2.2.2.2.2.1.2.1
  have k11 := h1.2.2.2.1.1
  have k12 := h1.2.2.2.1.2.1
  rw [k11, k12] at lc
  omega
theorem ENV.nt {N : Nat} {d : Int32} {S : CS} {s : RS} {w : Int32 × CS} (h : ENV d S s) (h21 : (S.i 21).toInt + 1 ≤ 3 * (s.i 11).toInt + 8) (e : f_X0_newTarget N S = some w) : ENV d w.2 s ∧ w.1.toInt = (S.i 21).toInt ∧ (w.2.i 21).toInt = (S.i 21).toInt + 1 := by
  have hi := i11_hi h
  unfold f_X0_newTarget at e
  cases e
  obtain ⟨⟨h1, h2, h3, h4, h5, h6, h7, h8⟩, n, o, c, l, k, ⟨r1, r2, r3, r4, r5, r6, r7, r8, r9, r10, r11⟩⟩ := h
  have a : (S.i 21 + 1).toInt = (S.i 21).toInt + 1 := ad1 r6 (by omega)
  have e1 : (1 : Int32).toInt = 1 := by decide
  have b : (S.i 21 + 1 - 1).toInt = (S.i 21).toInt := by
    rw [toInt_sub] <;> rw [a, e1] <;> omega
  refine ⟨⟨⟨h1, h2, h3, h4, h5, h6, h7, h8⟩, n, o, c, l, k, ⟨r1, r2, r3, r4, r5, ?_, ?_, r8.mv rfl rfl rfl rfl ⟨rfl, rfl, rfl⟩ r8.2.2.2.2.2.2 (Int.le_refl _), r9, r10, r11⟩⟩, b, a⟩
  · show 0 ≤ (S.i 21 + 1).toInt
    omega
  · show (S.i 21 + 1).toInt ≤ 3 * (s.i 11).toInt + 8
    omega
theorem setA_tb0 {s : RS} {k j : Nat} {v : Int32} (hk : k = 22 ∨ (64 ≤ k ∧ k ≤ 73)) : TBZ s (RS.setA s k j v) := by
  have e : ∀ m : Nat, m ≠ k → (RS.setA s k j v).a m = s.a m := fun m hm => if_neg hm
  exact ⟨⟨rfl, rfl, rfl, rfl, rfl, rfl, rfl, e 1 (by omega), e 4 (by omega), rfl⟩, fun n _ => ⟨rfl, by rw [e 40 (by omega)], by rw [e 41 (by omega)]⟩, fun n _ => ⟨by rw [e 44 (by omega)], rfl, by rw [e 46 (by omega)], by rw [e 47 (by omega)], by rw [e 50 (by omega)], by rw [e 51 (by omega)], by rw [e 48 (by omega)], by rw [e 49 (by omega)]⟩, fun n _ => ⟨by rw [e 57 (by omega)], by rw [e 58 (by omega)]⟩, ⟨Int.le_refl _, fun n h1 h2 => absurd (show (n : Int) < (s.i 59).toInt from h2) (by omega)⟩, fun n _ => ⟨by rw [e 60 (by omega)], by rw [e 61 (by omega)], by rw [e 62 (by omega)]⟩, Int.le_refl _, fun n _ => by rw [e 30 (by omega)], Int.le_refl _, fun n _ => ⟨by rw [e 34 (by omega)], by rw [e 37 (by omega)]⟩, Int.le_refl _, fun n _ => ⟨by rw [e 25 (by omega)], by rw [e 27 (by omega)], by rw [e 28 (by omega)]⟩⟩
theorem setA_env {d : Int32} {S : CS} {s : RS} {k j : Nat} {v : Int32} (hk : k = 22 ∨ (64 ≤ k ∧ k ≤ 73)) (h : ENV d S s) : ENV d S (RS.setA s k j v) := by
  have e : ∀ m : Nat, m ≠ k → (RS.setA s k j v).a m = s.a m := fun m hm => if_neg hm
  exact h.kq rfl rfl rfl rfl rfl rfl rfl (e 1 (by omega)) (e 4 (by omega)) (e 41 (by omega)) rfl rfl rfl rfl rfl rfl rfl rfl rfl rfl ⟨h.2.2.2.2.2.2.1, h.2.2.2.2.2.2.2.1⟩ (h.wp.of (Int.le_refl _) rfl rfl rfl (e 58 (by omega)) (e 62 (by omega)))
theorem setA_frb {s : RS} {t k j : Nat} {v : Int32} (hk : k = 22 ∨ (64 ≤ k ∧ k ≤ 73 ∧ t ≤ j)) : FRB t s (RS.setA s k j v) := by
  intro i hi
  have e : ∀ m : Nat, 64 ≤ m → m ≤ 73 → (RS.setA s k j v).a m i = s.a m i := fun m h1 h2 => by
    by_cases c : m = k
    · rw [c]
      show (if k = k then upd (s.a k) j v else s.a k) i = s.a k i
      rw [if_pos rfl]
      exact if_neg (by omega)
    · show (if m = k then upd (s.a k) j v else s.a m) i = s.a m i
      rw [if_neg c]
  exact ⟨e 64 (by omega) (by omega), e 65 (by omega) (by omega), e 66 (by omega) (by omega), e 67 (by omega) (by omega), e 68 (by omega) (by omega), e 69 (by omega) (by omega), e 70 (by omega) (by omega), e 71 (by omega) (by omega), e 72 (by omega) (by omega), e 73 (by omega) (by omega), rfl⟩
/-- KEEP in both -/
def KOP (o op : Int32) (F : Nat) : Prop := (o = 32 ∧ op = 12 ∧ F = 3) ∨ (o = 33 ∧ op = 11 ∧ F = 4)
theorem gs_kepf {FC : Nat → Prop} {s0 : CS} {r0 : RS} {nm : Nat → Nat → Prop} {X : Als} {p q h w p' q' f F w' : Nat} {c : List Ent} (pq : PQX s0 r0 p q) (k : HC0 nm h c) (e1 : KOP (s0.a 15 p) (r0.a 21 q) F) (hf : f = 2 ∨ f = F) (ht : (cTg s0 (s0.a 16 p)).toInt = (p' : Int)) (hx : (r0.a 22 q).toInt = (q' : Int)) (l : w' ≤ w) (zj : GU FC s0 r0 nm X p' q' (h + 1) w' f c) (z : GU FC s0 r0 nm X (p + 1) (q + 1) h w 0 c) : GU FC s0 r0 nm X p q (h + 1) (w + 1) 2 c := by
  refine gi_UKep (pq.hc (k.up (Nat.le_succ _))) pq.2.1 ⟨?_, h, f, rfl, JX.of ht hx zj 1 (by omega), NXW.of z 1, ?_⟩
  · rcases e1 with ⟨a, b, -⟩ | ⟨a, b, -⟩
    · exact Or.inl ⟨a, b⟩
    · exact Or.inr ⟨a, b⟩
  · rcases hf with hf | hf
    · exact Or.inr (Or.inl ⟨hf, rfl⟩)
    · rcases e1 with ⟨a, -, b⟩ | ⟨a, -, b⟩
      · exact Or.inr (Or.inr (Or.inl ⟨hf.trans b, a, rfl⟩))
      · exact Or.inr (Or.inr (Or.inr ⟨hf.trans b, a, rfl⟩))
theorem gs_rkp {FC : Nat → Prop} {s0 : CS} {r0 : RS} {nm : Nat → Nat → Prop} {X : Als} {p q h w q' f F : Nat} {o : Int32} {c : List Ent} (pq : PQX s0 r0 p q) (k : HC0 nm h c) (e1 : KOP o (r0.a 21 q) F) (hf : f = 2 ∨ f = F) (hx : (r0.a 22 q).toInt = (q' : Int)) (z : GU FC s0 r0 nm X p q' (h + 1) w f c) : GU FC s0 r0 nm X p q (h + 1) w F c := gi_URkp (pq.hc (k.up (Nat.le_succ _))) pq.2.1 ⟨by rcases e1 with ⟨-, a, b⟩ | ⟨-, a, b⟩; exact Or.inl ⟨a, b⟩; exact Or.inr ⟨a, b⟩, h, q', w, f, rfl, hx, z, Nat.le_refl _, hf⟩
/-- the loop's code -/
def LBD (t : Nat) (U : RS) (c9 y : Int32) (F : Nat) (S : CS) (s : RS) (R : CS) (u : RS) : Prop := CRB S → 0 ≤ y.toInt → y.toInt < (S.i 21).toInt → (s.a 65 t = 2 → 0 ≤ (s.a 66 t).toInt ∧ (s.a 66 t).toInt < (s.i 20).toInt) → (CD1 0 0 S R ∧ (S.i 43 = c9 → CD1 0 (-2) S R)) ∧ (∀ k : Nat, (k : Int) < (S.i 21).toInt → ¬ (k : Int) = y.toInt → R.a 17 k = S.a 17 k) ∧ cTg R y = R.i 20 ∧ CD2 0 s u ∧ (∀ j : Nat, (j : Int) < (s.i 20).toInt → u.a 21 j = s.a 21 j ∧ u.a 23 j = s.a 23 j ∧ (¬ (s.a 65 t = 2 ∧ (j : Int) = (s.a 66 t).toInt) → u.a 22 j = s.a 22 j)) ∧ (s.a 65 t = 2 → u.a 22 (s.a 66 t).toNatClampNeg = s.i 20) ∧ ∃ Ψ : GPS, SAT Ψ S s R u ∧ ∀ (FC : Nat → Prop) (SF : CS) (nm : Nat → Nat → Prop) (X : Als) (c : List Ent) (h w W : Nat), Ψ FC nm → FGC S R SF → cTg SF y = cTg R y → FGR s u U → NMG nm c S s → HC0 nm h c → ((2 * h + 1 + msr c : Nat) : Int) ≤ (s.i 11).toInt → TYC SF U (GU FC SF U nm X) W c → W + 1 ≤ w → GU FC SF U nm X (pcC R) (pcR u) (h + 1) w 2 c → GU FC SF U nm X (pcC S) (pcR s) (h + 1) (w + (pcC R - pcC S)) 2 c ∧ ∃ f : Nat, (f = 2 ∨ f = F) ∧ GU FC SF U nm X (pcC R) (pcR s) (h + 1) w f c
theorem sx_bloop {N : Nat} (hN : 1000 ≤ N) {K K2 c sg op o : Int32} {F : Nat} {E : CS → Option (Int32 × CS)} {L : Nat → CS → Int32 → Int32 → Option (Int32 × CS)} (hE : SXN N K2 E) (ko : KOP o op F) (hL : LPB N c o E L) (h0 : ¬ c = 0) (hc : tyR c) (hsg : tm c = sg)
    (hK : ∀ (n : Nat) (s U : RS) (t : Nat), f_X12_parse_10 N n s = some U → tpI s = t → s.i 15 = 0 → s.a 64 t = K → ∃ (m : Nat) (V : RS), f_X12_both N s (s.i 63) K2 sg op = some V ∧ f_X12_parse_10 N m V = some U) :
    ∀ (n1 n t : Nat) (d y x : Int32) (S : CS) (s U : RS) (R : Int32 × CS) (φ c0 : Int), ENV d S s → tpI s = t → s.a 64 t = K → (s.a 65 t = 1 ∨ (s.a 65 t = 2 ∧ c0 ≤ (s.a 66 t).toInt)) → φ ≤ phI s → 1 ≤ φ → 0 ≤ c0 → c0 ≤ (s.i 20).toInt → 0 ≤ x.toInt → x.toInt ≤ (s.i 11).toInt → L n1 S y x = some R → f_X12_parse_10 N n s = some U → (¬ R.2.i 32 = 0 ∧ ¬ U.i 15 = 0) ∨ ∃ (m : Nat) (u : RS), f_X12_parse_10 N m u = some U ∧ ENV d R.2 u ∧ tpI u = (t : Int) - 1 ∧ FRB t s u ∧ TBZ s u ∧ CDK c0 s u ∧ CKX S R.2 ∧ (s.i 11).toInt ≤ (u.i 11).toInt ∧ φ ≤ phI u ∧ (s.i 17).toInt ≤ (u.i 17).toInt ∧ R.1 = 0 ∧ (S.i 43 = c → (s.i 17).toInt + 2 ≤ (u.i 17).toInt ∧ (R.2.i 21).toInt + 2 * (S.i 44).toInt + 1 ≤ (S.i 21).toInt + 2 * (R.2.i 44).toInt) ∧ u.i 19 = s.i 19 ∧ LBD t U c y F S s R.2 u := by
  intro n1
  induction n1 with
  | zero =>
    intro n t d y x S s U R φ c0 _ _ _ _ _ _ _ _ _ _ e
    rw [hL.1] at e
    cases e
  | succ n1 ih =>
    intro n t d y x S s U R φ c0 hv ht hk hs hp hφ hc0 hcd hx0 hx e g
    have h15 := hv.1.2.1
    obtain ⟨m, V, hV, g2⟩ := hK n s U t g ht h15 hk
    have en := tp_nat ht
    have t9 : t < 1000 := by
      have := (rl_0 g ht h15).2.1.2
      have h2 : (s.i 63).toInt = (t : Int) := ht
      omega
    have is := hv.1.2.2.2.1.is hc hsg
    -- behind what aims the instruction of the part before
    obtain ⟨s2, v2, k2, d2, f2, j2, z2, hV2⟩ : ∃ s2 : RS, ENV d S s2 ∧ TBZ s s2 ∧ CDK c0 s s2 ∧ FRB (t + 1) s s2 ∧ (s2.i 17 = s.i 17 ∧ s2.i 10 = s.i 10 ∧ s2.i 11 = s.i 11 ∧ s2.i 20 = s.i 20 ∧ s2.i 63 = s.i 63 ∧ s2.i 19 = s.i 19) ∧ (CD2 0 s s2 ∧ (∀ j : Nat, s2.a 21 j = s.a 21 j ∧ s2.a 23 j = s.a 23 j ∧ (¬ (s.a 65 t = 2 ∧ (j : Int) = (s.a 66 t).toInt) → s2.a 22 j = s.a 22 j)) ∧ (s.a 65 t = 2 → s2.a 22 (s.a 66 t).toNatClampNeg = s.i 20)) ∧ f_X12_both_41 N s2 (s.i 63) K2 sg op = some V := by
      unfold f_X12_both at hV
      obtain ⟨-, hV⟩ := hf_ite hV
      rw [en] at hV
      rcases hs with c1 | ⟨c2, c3⟩
      · rw [if_neg (by rw [c1]; decide), if_neg (by rw [c1]; decide)] at hV
        exact ⟨s, hv, TBZ.rf s, ⟨Int.le_refl _, fun _ _ => rfl⟩, FRB.rf _ s, ⟨rfl, rfl, rfl, rfl, rfl, rfl⟩, ⟨CD2.rf 0 s, fun _ => ⟨rfl, rfl, fun _ => rfl⟩, fun z => by rw [c1] at z; exact absurd z (by decide)⟩, hV⟩
      · rw [if_neg (by rw [c2]; decide), if_pos c2] at hV
        obtain ⟨ib9, hV⟩ := hf_ite hV
        have ck := clampI ib9.1
        refine ⟨_, setA_env (Or.inl rfl) hv, setA_tb0 (Or.inl rfl), ⟨Int.le_refl _, fun j hj => ?_⟩, setA_frb (Or.inl rfl), ⟨rfl, rfl, rfl, rfl, rfl, rfl⟩, ⟨⟨⟨Int.le_refl _, Int.le_refl _, Int.le_refl _, Int.le_refl _, SLC.eq rfl (Int.le_refl _), rfl⟩, fun j hj => by omega, fun _ _ => ⟨rfl, rfl, rfl, rfl⟩, fun _ _ => ⟨rfl, rfl, rfl⟩, fun _ _ => ⟨rfl, rfl, rfl, rfl⟩⟩, fun j => ⟨rfl, rfl, fun z => if_neg (fun y => z ⟨c2, by omega⟩)⟩, fun _ => if_pos rfl⟩, hV⟩
        show upd (s.a 22) _ _ j = s.a 22 j
        exact if_neg (by omega)
    have ht2 : tpI s2 = t := by
      show (s2.i 63).toInt = (t : Int)
      rw [j2.2.2.2.2.1]
      exact ht
    have p2 : phI s2 = phI s := by
      unfold phI
      rw [j2.1, j2.2.2.2.1]
    unfold f_X12_both_41 at hV2
    rcases hL.2.1 n1 S y x R e with ⟨hst, w, ew, hR⟩ | ⟨h900, hcc, p, w, q, e1, e2, e3, e4⟩
    · have no : ¬ S.i 43 = c := fun z => by
        rcases hst with q | q
        · rw [no_900 hv hx q] at z
          exact h0 z.symm
        · exact q z
      rw [if_neg (show ¬ s2.i 10 = sg from fun z => no (is.mpr (by rw [← j2.2.1]; exact z)))] at hV2
      cases hV2
      have kw := kd_X0_aim N S y w ew
      obtain ⟨kp7, -, -, -, e22, -, -, -, -, -, -, e18⟩ := pj2_eq kw
      rw [hR]
      refine Or.inr ⟨m, _, g2, pop_env (v2.kd kw), tp_sub ht2 t9, (f2.mo (by omega)).tr pop_frb, k2.tr pop_tbk.1, d2.tr ⟨Int.le_refl _, fun _ _ => rfl⟩, CKX.of kp7 e22 e18, ?_, ?_, ?_, rfl, fun z => absurd z no, j2.2.2.2.2.2, fun cr y0 y1 ys => ?_⟩
      · show (s.i 11).toInt ≤ (s2.i 11).toInt
        rw [j2.2.2.1]
        exact Int.le_refl _
      · show φ ≤ phI s2
        rw [p2]
        exact hp
      · show (s.i 17).toInt ≤ (s2.i 17).toInt
        rw [j2.1]
        exact Int.le_refl _
      · have q44 := hv.p44
        have q44' : (S.i 44).toInt = (s.i 11).toInt := by rw [q44.1]
        obtain ⟨a1, a2, a3, a4, a5, a6, a7, a8⟩ := cd_aim ew y0 (by have := cr.2.2; omega)
        have pR : pcC w.2 = pcC S := by unfold pcC; rw [a6]
        have pu : ∀ v : Int32, pcR (RS.setI s2 63 v) = pcR s := fun v => by
          unfold pcR
          rw [show (RS.setI s2 63 v).i 20 = s2.i 20 from rfl, j2.2.2.2.1]
        refine ⟨⟨a1, fun z => absurd z no⟩, fun k _ hk => a2 k hk, by rw [a3, a6], z2.1.tr (CD2.qe rfl), fun j _ => z2.2.1 j, z2.2.2, ?_⟩
        refine ⟨GPS.tt, SAT.tt _ _ _ _ (z2.1.tr (CD2.qe rfl)).1.2.2.2.2.1, ?_⟩
        intro FC SF nm X c h w1 W h0 h1 h2 h3 h4 h5 h6 h7 h8 h9
        rw [pu] at h9
        have h9' : GU FC SF U nm X (pcC w.2) (pcR s) (h + 1) w1 2 c := h9
        refine ⟨?_, 2, Or.inl rfl, h9'⟩
        show GU FC SF U nm X (pcC S) (pcR s) (h + 1) (w1 + (pcC w.2 - pcC S)) 2 c
        rw [pR] at h9' ⊢
        rw [Nat.sub_self]
        exact h9'
    · rw [if_pos (show s2.i 10 = sg from by rw [j2.2.1]; exact is.mp hcc)] at hV2
      obtain ⟨v5, b5, b⟩ := hf_bind hV2
      obtain ⟨v7, b7, b⟩ := hf_bind b
      obtain ⟨-, b⟩ := hf_ite b
      obtain ⟨v8, b8, b⟩ := hf_bind b
      cases b
      rw [en] at b8
      have nz : ¬ S.i 43 = 0 := fun z => h0 (hcc.symm.trans z)
      obtain ⟨v4, n1', n2', n3', n4', n5', n6', n7', n8', n9'⟩ := v2.adv hN nz e1 b5
      have t5 : (v5.i 17).toInt = (s.i 17).toInt + 1 := by
        rw [n3', t17_up (N := N) v2, j2.1]
      have p5 : phI v5 = phI s + 3 := by
        unfold phI
        rw [n5', t5, j2.2.2.2.1]
        omega
      obtain ⟨w1, w2, w3, w4, w5, w6⟩ := em_env v4 (by omega) b7
      obtain ⟨kq7, -, y11, -, -, -, -, y17, y19, -⟩ := qj2_eq w3
      obtain ⟨s6, hs6⟩ : ∃ z, z = RS.setA v7.2 66 t v7.1 := ⟨_, rfl⟩
      rw [← hs6] at b8
      have v6 : ENV d p.2 s6 := by rw [hs6]; exact setA_env (Or.inr (by omega)) w1
      have k6 : TBZ v7.2 s6 := by rw [hs6]; exact setA_tb0 (Or.inr (by omega))
      have f6 : FRB t v7.2 s6 := by rw [hs6]; exact setA_frb (Or.inr ⟨by omega, by omega, Nat.le_refl _⟩)
      have q6 : s6.a 66 t = v7.1 := by
        rw [hs6]
        show upd (v7.2.a 66) t v7.1 t = v7.1
        exact if_pos rfl
      have q64 : s6.a 64 t = K := by
        have r1 : s6.a 64 t = v7.2.a 64 t := by rw [hs6]; rfl
        rw [r1, ((FRB.of (t := t + 1) kq7) t (by omega)).1, ((FRB.of (t := t + 1) n1') t (by omega)).1, (f2 t (by omega)).1]
        exact hk
      have j6 : s6.i 17 = v7.2.i 17 ∧ s6.i 11 = v7.2.i 11 ∧ s6.i 20 = v7.2.i 20 ∧ s6.i 63 = v7.2.i 63 ∧ s6.a 22 = v7.2.a 22 ∧ s6.i 19 = v7.2.i 19 := by
        rw [hs6]
        exact ⟨rfl, rfl, rfl, rfl, rfl, rfl⟩
      have qe6 : qe s6 = qe v7.2 := by
        rw [hs6]
        rfl
      clear hs6
      have t6 : tpI s6 = t := by
        have r1 : v7.2.i 63 = v5.i 63 := congrArg (fun v : QJT => v.1.2.2.2.2.2.2.2.2.2.2.2.2.2.2.2.2.1) kq7
        have r2 : v5.i 63 = s2.i 63 := congrArg (fun v : QJT => v.1.2.2.2.2.2.2.2.2.2.2.2.2.2.2.2.2.1) n1'
        show (s6.i 63).toInt = (t : Int)
        rw [j6.2.2.2.1, r1, r2]
        exact ht2
      obtain ⟨b8', t99⟩ := r_then t6 b8
      rw [b8'] at g2
      have ck1 : CKX S p.2 := CKX.of n2' n7' n8'
      have kw := kd_X0_add N p.2 o y w e2
      obtain ⟨kpw, -, -, -, e22, -, -, -, -, -, -, e18⟩ := pj2_eq kw
      have ck2 : CKX p.2 w.2 := CKX.of kpw e22 e18
      have p21 := pj_21 n2'
      have p44 : (S.i 44).toInt + 1 ≤ (p.2.i 44).toInt := by
        rw [hv.1.2.2.2.1.1, v4.1.2.2.2.1.1, ← j2.2.2.1]
        exact n4'
      have p6 : phI s6 = phI s + 2 := by
        have : phI s6 = phI v7.2 := by
          unfold phI
          rw [j6.1, j6.2.2.1]
        rw [this, w4, p5]
        omega
      have c20 : (v5.i 20).toInt = (s.i 20).toInt := by rw [n5', j2.2.2.2.1]
      rcases hE d w.2 (TH s6 t 2 K2) U m (t + 1) q (v6.kd kw).th (TH.tp t6 (by omega)) TH.fk TH.fs (show 3 ≤ phI s6 by omega) e3 g2 with ⟨x1, x2⟩ | ⟨m2, u, g3, xo, -, -, xc⟩
      · exact Or.inl ⟨hL.2.2 n1 q.2 y (x + 1) R e4 x1, x2⟩
      · obtain ⟨o1, o2, o3, o4, o5, o6, o7, o8, o9⟩ := xo
        have u64 : u.a 64 t = K := by
          rw [(o3 t (by omega)).1, TH.fk0 (Nat.le_refl t)]
          exact q64
        have u65 : u.a 65 t = 2 := by
          rw [(o3 t (by omega)).2.1]
          exact TH.st
        have u66 : u.a 66 t = v7.1 := by
          rw [(o3 t (by omega)).2.2.1]
          exact q6
        have tu : tpI u = t := by
          rw [o2]
          omega
        have o6' : (s6.i 11).toInt + 1 ≤ (u.i 11).toInt := o6
        have o7' : phI s6 + 1 ≤ phI u := o7
        have o8' : (s6.i 17).toInt + 1 ≤ (u.i 17).toInt := o8
        have o9' : u.i 19 = s6.i 19 := o9
        have e17 : (s6.i 17).toInt = (s.i 17).toInt + 1 := by rw [j6.1, y17, t5]
        have e11 : (s.i 11).toInt + 1 ≤ (s6.i 11).toInt := by
          rw [j6.2.1, y11]
          rw [j2.2.2.1] at n4'
          exact n4'
        have hi := i11_hi hv
        have xx : (x + 1).toInt = x.toInt + 1 := ad1 hx0 (by omega)
        have d20 : (s.i 20).toInt ≤ (s6.i 20).toInt := by
          rw [j6.2.2.1, w6, c20]
          omega
        have o420 := o4.2.1
        have o420' : (s6.i 20).toInt ≤ (u.i 20).toInt := o420
        have f77 : FRB t v5 v7.2 := FRB.of kq7
        have f55 : FRB t s2 v5 := FRB.of n1'
        have sm : FRB t s u := (((((f2.mo (by omega)).tr f55).tr f77).tr f6).tr TH.frb).tr (o3.mo (by omega))
        have tb : TBZ s u := ((((k2.tr (TBZ.of n1')).tr (TBZ.of kq7)).tr k6).tr TH.tbk.1).tr o4.1
        have cd5 : CDK c0 s2 v5 := ⟨by rw [n5']; exact Int.le_refl _, fun j _ => by rw [n6']⟩
        have cd7 : CDK c0 v5 v7.2 := w2.2.wk (by omega)
        have cd6 : CDK c0 v7.2 s6 := ⟨by rw [j6.2.2.1]; exact Int.le_refl _, fun j _ => by rw [j6.2.2.2.2.1]⟩
        have cdT : CDK c0 s6 (TH s6 t 2 K2) := ⟨Int.le_refl _, fun _ _ => rfl⟩
        have cdu : CDK c0 (TH s6 t 2 K2) u := o4.2.wk (by show c0 ≤ (s6.i 20).toInt; omega)
        have cd : CDK c0 s u := ((((d2.tr cd5).tr cd7).tr cd6).tr cdT).tr cdu
        have v71 : c0 ≤ (u.a 66 t).toInt := by
          rw [u66, w5, c20]
          exact hcd
        rcases ih m2 t d y (x + 1) q.2 u U R φ c0 o1 tu u64 (Or.inr ⟨u65, v71⟩) (by omega) hφ hc0 (by omega) (by omega) (by omega) e4 g3 with z | ⟨m3, u3, y1, y2, y3, y4, y5, y6, y7, y8, y9, y10, y12, y13, y14, y15⟩
        · exact Or.inl z
        · have r9 := ((ck2.tr o5).tr y7).r21
          rw [p21] at r9
          refine Or.inr ⟨m3, u3, y1, y2, y3, sm.tr y4, tb.tr y5, cd.tr y6, ((ck1.tr ck2).tr o5).tr y7, by omega, y9, by omega, y12, fun _ => ⟨by omega, by omega⟩, y14.trans (o9'.trans (j6.2.2.2.2.2.trans (y19.trans (n9'.trans j2.2.2.2.2.2)))), fun cr y0 yS ys => ?_⟩
          obtain ⟨a1, a2, a3, a4, a5, a6, a7⟩ := adv_cd hN v2 nz e1 b5
          have crp : CRB p.2 := cr.of a1 (by omega) (by omega)
          have q44 := v4.p44
          have q44' : (p.2.i 44).toInt = (v5.i 11).toInt := by rw [q44.1]
          obtain ⟨d1, d2', ⟨d3, d3'⟩, d4, d5, d6⟩ := cd_add e2 crp.1.1 (by have := crp.1.2; omega)
          have c0w : CD1 0 (-1) S w.2 := (a1.tr d1).wk (by omega) (by omega)
          have crw : CRB w.2 := cr.of c0w (by omega) (by omega)
          obtain ⟨b1, b2, b3, b4⟩ := xc.1 crw
          have crq : CRB q.2 := crw.of b1 (by omega) (by omega)
          have p20 := v4.p20
          obtain ⟨m1, m2', m3', m4, m5, m6⟩ := cd_emit b7 p20.1 (by omega)
          have e20 : v5.i 20 = s.i 20 := a6.trans j2.2.2.2.1
          have pv : pcR v5 = pcR s := by unfold pcR; rw [e20]
          have t20 : ((TH s6 t 2 K2).i 20).toInt = (s.i 20).toInt + 1 := by
            show (s6.i 20).toInt = _
            rw [(qe_eq qe6).1.1, m3', e20]
          have u66' : u.a 66 t = s.i 20 := by rw [u66, m2', e20]
          have l21 : (S.i 21).toInt ≤ (q.2.i 21).toInt := Int.le_trans c0w.2.2.1 b1.2.2.1
          obtain ⟨⟨r1, -⟩, r2, r3, r4, r5, r6, r7⟩ := y15 crq y0 (by omega) (fun _ => by rw [u66']; exact ⟨by rw [← e20]; exact p20.1, by have := b3.1.1; omega⟩)
          have mT : CD2 (s.i 20).toInt v5 (TH s6 t 2 K2) := ((m1.wk (by rw [e20]; exact Int.le_refl _)).tr (CD2.qe qe6)).tr (CD2.qe rfl)
          have m2u : CD2 (s.i 20).toInt s2 u := ((a3 _).tr mT).tr (b3.wk (by omega))
          have h20 : 0 ≤ (s.i 20).toInt := by rw [← e20]; exact p20.1
          have sT : CD2 0 s (TH s6 t 2 K2) := z2.1.tr (((a3 _).tr mT).wk h20)
          have su : CD2 0 s u := z2.1.tr (m2u.wk h20)
          have n50 := hv.2.1.1
          have cSq : CD1 0 0 S q.2 := (c0w.tr b1).wk (by omega) (by omega)
          have pS : ((pcC S : Nat) : Int) = (S.i 20).toInt := Int.toNat_of_nonneg cr.1.1
          have pp : pcC p.2 = pcC S := by unfold pcC; rw [a4]
          have pw : pcC w.2 = pcC S + 1 := by
            rw [← pp]
            unfold pcC
            rw [d2']
            have := crp.1.1
            omega
          have pw' : ((pcC w.2 : Nat) : Int) = (w.2.i 20).toInt := Int.toNat_of_nonneg crw.1.1
          have pq : ((pcC q.2 : Nat) : Int) = (q.2.i 20).toInt := Int.toNat_of_nonneg crq.1.1
          have pR : ((pcC R.2 : Nat) : Int) = (R.2.i 20).toInt := Int.toNat_of_nonneg (by have := r1.1.1; have := crq.1.1; omega)
          have ps : ((pcR s : Nat) : Int) = (s.i 20).toInt := Int.toNat_of_nonneg h20
          have lwq := b1.1.1
          have lqR := r1.1.1
          have crR : CRB R.2 := crq.of r1 (by omega) (by omega)
          have R44 := y2.p44
          have R44' : (R.2.i 44).toInt = (u3.i 11).toInt := by rw [R44.1]
          have luu3 := r4.1.1
          have lTu := b3.1.1
          refine ⟨⟨(cSq.tr r1).wk (by omega) (by omega), fun _ => ((c0w.tr b1).tr r1).wk (by omega) (by omega)⟩, fun k hk hy => ?_, r3, su.tr r4, fun j hj => ?_, fun c2 => ?_, ?_⟩
          · rw [r2 k (by omega) hy, b2 k (by omega) (by have := c0w.2.2.1; omega), d4, (show p.2.a 17 k = S.a 17 k from a2 0 (S.i 21).toInt k (by omega) hk)]
          · have x1 := r5 j (by omega)
            have x2 := m2u.2.1 j hj
            have x3 := z2.2.1 j
            exact ⟨x1.1.trans (x2.1.trans x3.1), x1.2.1.trans (x2.2.2.trans x3.2.1), fun z => (x1.2.2 (fun z' => by rw [u66'] at z'; omega)).trans (x2.2.1.trans (x3.2.2 z))⟩
          · have := ys c2
            have ck := clampI this.1
            have x1 := r5 (s.a 66 t).toNatClampNeg (by omega)
            have x2 := m2u.2.1 (s.a 66 t).toNatClampNeg (by omega)
            rw [x1.2.2 (fun z' => by rw [u66'] at z'; omega), x2.2.1]
            exact z2.2.2 c2
          · obtain ⟨Ψ1, sat1, b4⟩ := b4
            obtain ⟨Ψ2, sat2, r7⟩ := r7
            refine ⟨_, (sat1.wd (MNO.of c0w sT) (MNO.of (CD1.rf q.2) (CD2.rf 0 u))).an sat2 (MNO.of cSq su) (MNO.of r1 r4), ?_⟩
            intro FC SF nm X c' h w1 W ps fc fy fr ng hc hh ty hW z
            obtain ⟨zA, f, hf, zB⟩ := r7 FC SF nm X c' h w1 W ps.2 (fc.sub cSq (CD1.rf R.2) (CT7.rf _ _ R.2)) fy (fr.sub su (CD2.rf 0 u3) (fun _ _ _ => ⟨rfl, rfl, rfl⟩)) (ng.mv n50 cSq su tb.1.2.2.2.1 (fun j hj => (tb.2.1 j hj).2.1) (by rw [o9'.trans (j6.2.2.2.2.2.trans (y19.trans (n9'.trans j2.2.2.2.2.2)))]; exact Int.le_refl _)) hc (by omega) ty hW z
            have tT : TBZ s (TH s6 t 2 K2) := (((k2.tr (TBZ.of n1')).tr (TBZ.of kq7)).tr k6).tr TH.tbk.1
            have z1 := b4 FC SF nm X c' h (w1 + (pcC R.2 - pcC q.2)) W 0 ps.1 (fc.sub c0w r1 (fun k k1 k2 => r2 k k2 (by have := c0w.2.2.1; rw [d5, a5] at k1; omega))) (fr.sub sT r4 (fun j j1 j2 => by
              have x := r5 j j2
              exact ⟨x.1, x.2.2 (fun z' => by rw [u66'] at z'; omega), x.2.1⟩)) (ng.mv n50 c0w sT tT.1.2.2.2.1 (fun j hj => (tT.2.1 j hj).2.1) (show (s.i 19).toInt ≤ (s6.i 19).toInt by rw [j6.2.2.2.2.2.trans (y19.trans (n9'.trans j2.2.2.2.2.2))]; exact Int.le_refl _)) hc (show ((2 * h + 0 + msr c' : Nat) : Int) ≤ (s6.i 11).toInt by omega) ty (by omega) True.intro zA
            have u21 := fr.2.1 (pcR s) (by omega) (by omega)
            have x5 := r5 (pcR s) (by omega)
            have x3 := b3.2.1 (pcR s) (by omega)
            have xq := (qe_eq qe6).2.1
            have o21 : U.a 21 (pcR s) = op := by
              rw [u21.1, x5.1, x3.1]
              show s6.a 21 (pcR s) = op
              rw [xq, ← pv]
              exact m4
            have o22 : (U.a 22 (pcR s)).toInt = ((pcR u : Nat) : Int) := by
              have x6 := r6 u65
              have ck : (u.a 66 t).toNatClampNeg = pcR s := by rw [u66']; rfl
              rw [ck] at x6
              rw [u21.2.1, x6]
              exact (Int.toNat_of_nonneg (by omega)).symm
            have f15 := fc.2.1 (pcC S) (by omega) (by omega)
            have g15 := (cSq.tr r1)
            have k15 := (b1.tr r1).2.1 (pcC S) (by omega)
            have o15 : SF.a 15 (pcC S) = o := by
              rw [f15.1, k15.1, ← pp]
              exact d3
            have o16 : SF.a 16 (pcC S) = y := by
              rw [f15.2, k15.2, ← pp]
              exact d3'
            have lR := crR.1.2
            have pqx : PQX SF U (pcC S) (pcR s) := ⟨by omega, by have := fr.1.2.1; omega, fr.1.2.2⟩
            have pqr : PQX SF U (pcC R.2) (pcR s) := ⟨by omega, by have := fr.1.2.1; omega, fr.1.2.2⟩
            rw [pw, show pcR (TH s6 t 2 K2) = pcR s + 1 by unfold pcR; rw [t20]; omega] at z1
            refine ⟨?_, F, Or.inr rfl, gs_rkp (o := o) pqr hc (by rw [o21]; exact ko) hf o22 zB⟩
            have z2' := gs_kepf pqx hc (by rw [o15, o21]; exact ko) hf (p' := pcC R.2) (by rw [o16, fy, r3]; exact pR.symm) o22 (by omega) zB z1
            rw [show w1 + (pcC R.2 - pcC S) = w1 + (pcC R.2 - pcC q.2) + (pcC q.2 - (pcC S + 1)) + 1 by omega]
            exact z2'
end
section
/-! both readers: && and ||, whole -/
theorem sx_both {N : Nat} (hN : 1000 ≤ N) {K K2 c sg op o : Int32} {F : Nat} {E : CS → Option (Int32 × CS)} {L : Nat → CS → Int32 → Int32 → Option (Int32 × CS)} (hE : SXN N K2 E) (ko : KOP o op F) (hL : LPB N c o E L) (h0 : ¬ c = 0) (hc : tyR c) (hsg : tm c = sg)
    (hK : ∀ (n : Nat) (s U : RS) (t : Nat), f_X12_parse_10 N n s = some U → tpI s = t → s.i 15 = 0 → s.a 64 t = K → ∃ (m : Nat) (V : RS), f_X12_both N s (s.i 63) K2 sg op = some V ∧ f_X12_parse_10 N m V = some U) : SXN N K (fun S => (E S).bind fun p1 => (f_X1_found N p1.2 c).bind fun p5 => (if p5.1 = 0 then if p1.1 = 0 ∨ p1.1 = 1 then some (p1.1, p5.2) else none else (f_X0_newTarget N p5.2).bind fun p10 => L N p10.2 p10.1 0)) := by
  intro d S s U n t R hv ht hk hs h3 e g
  obtain ⟨p, e1, e2⟩ := hf_bind e
  have h15 := hv.1.2.1
  have en := tp_nat ht
  obtain ⟨m, V, hV, g2⟩ := hK n s U t g ht h15 hk
  have hV' : V = TH s t 1 K2 ∧ t + 1 < 1000 := by
    unfold f_X12_both at hV
    obtain ⟨-, hV⟩ := hf_ite hV
    rw [en, if_pos hs, ob_id] at hV
    exact r_then ht hV
  obtain ⟨hV', t9⟩ := hV'
  rw [hV'] at g2
  have r0 := hv.2.2.2.2.2.2.2.1
  -- a fault stays
  have per : ¬ p.2.i 32 = 0 → ¬ R.2.i 32 = 0 := fun q => by
    by_cases k : p.2.i 43 = c
    · rw [e_fnd1 k, ob_some, if_neg n10] at e2
      obtain ⟨w, ew, e2⟩ := hf_bind e2
      refine hL.2.2 N w.2 w.1 0 R e2 ?_
      rw [(nt_i ew).1]
      exact q
    · rw [e_fnd0 k, ob_some, if_pos rfl] at e2
      obtain ⟨-, e2⟩ := hf_ite e2
      cases e2
      exact q
  rcases hE d S (TH s t 1 K2) U m (t + 1) p hv.th (TH.tp ht (by omega)) TH.fk TH.fs (show 3 ≤ phI s from h3) e1 g2 with ⟨x1, x2⟩ | ⟨m2, u, g3, xo, nb, nv, xc⟩
  · exact Or.inl ⟨per x1, x2⟩
  · obtain ⟨o1, o2, o3, o4, o5, o6, o7, o8, o9⟩ := xo
    have u64 : u.a 64 t = K := by
      rw [(o3 t (by omega)).1, TH.fk0 (Nat.le_refl t)]
      exact hk
    have u65 : u.a 65 t = 1 := by
      rw [(o3 t (by omega)).2.1]
      exact TH.st
    have tu : tpI u = t := by
      rw [o2]
      omega
    have o6' : (s.i 11).toInt + 1 ≤ (u.i 11).toInt := o6
    have o7' : phI s + 1 ≤ phI u := o7
    have o8' : (s.i 17).toInt + 1 ≤ (u.i 17).toInt := o8
    have o9' : u.i 19 = s.i 19 := o9
    have nv' : p.1 = 1 ↔ (s.i 10 = 432 ∧ (u.i 17).toInt = (s.i 17).toInt + 1) := nv
    have hi := i11_hi hv
    by_cases k : p.2.i 43 = c
    · rw [e_fnd1 k, ob_some, if_neg n10] at e2
      obtain ⟨w, ew, e2⟩ := hf_bind e2
      have ew' : f_X0_newTarget N p.2 = some w := ew
      obtain ⟨-, e43, e44, -, -, e21⟩ := nt_i ew'
      have hr := hv.t21
      have r9 := o5.r21
      have k11 := hv.1.2.2.2.1.1
      have q11 := o1.1.2.2.2.1.1
      rw [k11, q11] at r9
      obtain ⟨vw, -, w21⟩ := o1.nt (by omega) ew'
      have h20 : (s.i 20).toInt ≤ (u.i 20).toInt := o4.2.1
      rcases sx_bloop hN hE ko hL h0 hc hsg hK N m2 t d w.1 0 w.2 u U R (phI s + 1) (s.i 20).toInt vw tu u64 (Or.inl u65) o7' (by omega) hv.2.2.2.2.2.2.1 h20 (by decide) (by rw [z_t0]; omega) e2 g3 with z | ⟨m3, u3, y1, y2, y3, y4, y5, y6, y7, y8, y9, y10, y12, y13, y14, y15⟩
      · exact Or.inl z
      · have y13' := y13 (by rw [e43]; exact k)
        have r8 := y13'.2
        rw [w21, e44] at r8
        refine Or.inr ⟨m3, u3, y1, ⟨y2, y3, (TH.frb.tr (o3.mo (by omega))).tr y4, ⟨(TH.tbk.1.tr o4.1).tr y5, (TH.tbk.2.tr o4.2).tr y6⟩, o5.tr (CKX.nt ew' y7 (by omega)), by omega, y9, by omega, y14.trans o9'⟩, Or.inl y12, ?_, ⟨fun cr => ?_, fun z => absurd (y12.symm.trans z) (by decide)⟩⟩
        · rw [y12]
          refine ⟨fun q => absurd q (by decide), fun q => ?_⟩
          have := q.2
          omega
        obtain ⟨b1, b2, b3, b4⟩ := xc.1 cr
        have crp : CRB p.2 := cr.of b1 (by omega) (by omega)
        have q44' : (p.2.i 44).toInt = (u.i 11).toInt := by rw [o1.p44.1]
        have q44 := o1.p44
        obtain ⟨n1, n2, n3, n4, n5, n6, n7, n8⟩ := cd_nt ew' crp.2.1 (by have := crp.2.2; omega)
        have crw : CRB w.2 := cr.of (b1.tr n1) (by omega) (by omega)
        obtain ⟨⟨r1', r1⟩, r2, r3, r4, r5, r6, r7⟩ := y15 crw (by rw [n2]; exact crp.2.1) (by rw [n2]; omega) (fun z => by rw [u65] at z; exact absurd z (by decide))
        have r1 := r1 (by rw [e43]; exact k)
        have su : CD2 (s.i 20).toInt s u := (CD2.qe rfl).tr b3
        have c5 : CD2 (u.i 20).toInt u u3 := ⟨r4.1, fun j hj => ⟨(r5 j hj).1, (r5 j hj).2.2 (fun z => by rw [u65] at z; exact absurd z.1 (by decide)), (r5 j hj).2.1⟩, r4.2.2⟩
        have kT : TBZ s u := TH.tbk.1.tr o4.1
        have cSw : CD1 0 0 S w.2 := (b1.tr n1).wk (by omega) (by omega)
        have tp : CT7 0 (p.2.i 21).toInt p.2 R.2 := fun k k1 k2 => by
          rw [r2 k (by omega) (by rw [n2]; omega)]
          exact n4 0 k k1 k2
        have pS : ((pcC S : Nat) : Int) = (S.i 20).toInt := Int.toNat_of_nonneg cr.1.1
        have pp : ((pcC p.2 : Nat) : Int) = (p.2.i 20).toInt := Int.toNat_of_nonneg crp.1.1
        have pw : pcC w.2 = pcC p.2 := by unfold pcC; rw [n7]
        have l1 := b1.1.1
        have l2 := r1.1.1
        rw [n7] at l2
        have pR : ((pcC R.2 : Nat) : Int) = (R.2.i 20).toInt := Int.toNat_of_nonneg (by have := crp.1.1; omega)
        refine ⟨((b1.tr n1).tr r1).wk (by omega) (by omega), b2.tr (tp.wk (Int.le_refl _) b1.2.2.1), su.tr (c5.wk su.1.1), ?_⟩
        obtain ⟨Ψ1, sat1, b4⟩ := b4
        obtain ⟨Ψ2, sat2, r7⟩ := r7
        refine ⟨_, (sat1.wd (MNO.of (CD1.rf S) (CD2.qe rfl : CD2 0 s (TH s t 1 K2))) (MNO.of n1 (CD2.rf 0 u))).an sat2 (MNO.of cSw su) (MNO.of r1 r4), ?_⟩
        intro FC SF nm X c' h w1 W g0 ps fc fr ng hc hh ty hW hg z
        have wy : (S.i 21).toInt ≤ (p.2.i 21).toInt := b1.2.2.1
        have lR := r1.2.2.1
        have ck := clampI (show 0 ≤ w.1.toInt by rw [n2]; exact crp.2.1)
        have w1i : w.1.toInt = (p.2.i 21).toInt := by rw [n2]
        have fy : cTg SF w.1 = cTg R.2 w.1 := by
          unfold cTg gAt
          have r3' := r3
          unfold cTg gAt at r3'
          have r30 : 0 ≤ (R.2.i 20).toInt := by have := crp.1.1; omega
          have i9 : ib w.1 1024 := ⟨by rw [n2]; exact crp.2.1, by have := crp.2.2; omega⟩
          rw [if_pos i9] at r3'
          rw [fc.2.2 w.1.toNatClampNeg (by omega) (by omega) (Or.inl (by rw [r3']; exact r30))]
        have z1 := (r7 FC SF nm X c' h w1 W ps.2 (fc.sub cSw (CD1.rf R.2) (CT7.rf _ _ R.2)) fy (fr.sub su (CD2.rf 0 u3) (fun _ _ _ => ⟨rfl, rfl, rfl⟩)) (ng.mv hv.2.1.1 cSw su kT.1.2.2.2.1 (fun j hj => (kT.2.1 j hj).2.1) (by rw [o9']; exact Int.le_refl _)) hc (by omega) ty hW z).1
        rw [pw] at z1
        have z2 := b4 FC SF nm X c' h (w1 + (pcC R.2 - pcC p.2)) W g0 ps.1 (fc.sub (CD1.rf S) (n1.tr r1) (tp.wk cr.2.1 (Int.le_refl _))) (fr.sub (CD2.qe rfl : CD2 0 s (TH s t 1 K2)) c5 (c5.c3 (Int.le_refl _))) (ng.mv hv.2.1.1 (CD1.rf S) (CD2.qe rfl : CD2 0 s (TH s t 1 K2)) rfl (fun _ _ => rfl) (Int.le_refl _)) hc hh ty (by omega) hg z1
        rw [show w1 + (pcC R.2 - pcC S) = w1 + (pcC R.2 - pcC p.2) + (pcC p.2 - pcC S) by omega]
        exact z2
    · rw [e_fnd0 k, ob_some, if_pos rfl] at e2
      obtain ⟨-, e2⟩ := hf_ite e2
      cases e2
      obtain ⟨m3, V3, hV3, g4⟩ := hK m2 u U t g3 tu o1.1.2.1 u64
      have is := o1.1.2.2.2.1.is hc hsg
      unfold f_X12_both f_X12_both_41 at hV3
      obtain ⟨-, hV3⟩ := hf_ite hV3
      rw [tp_nat tu, if_neg (by rw [u65]; decide), if_neg (by rw [u65]; decide), if_neg (fun z => k (is.mpr z))] at hV3
      cases hV3
      have kk : ∀ gg : Nat, CDE gg U S (TH s t 1 K2) p.2 u → CDE gg U S s p.2 (RS.setI u 63 ((u.i 63) - 1)) := fun gg xg cr => by
        obtain ⟨b1, b2, b3, b4⟩ := xg cr
        obtain ⟨Ψ1, sat1, b4⟩ := b4
        exact ⟨b1, b2, ((CD2.qe rfl).tr b3).tr (CD2.qe rfl), Ψ1, sat1.wd (MNO.of (CD1.rf S) (CD2.qe rfl : CD2 0 s (TH s t 1 K2))) (MNO.of (CD1.rf p.2) (CD2.qe rfl : CD2 0 u _)), fun FC SF nm X c' h w1 W g0 ps fc fr ng hc hh ty hW hg z => b4 FC SF nm X c' h w1 W g0 ps fc fr ng hc hh ty hW hg z⟩
      exact Or.inr ⟨m3, _, g4, ⟨pop_env o1, tp_sub tu (by omega), (TH.frb.tr (o3.mo (by omega))).tr pop_frb, (TH.tbk.tr o4).tr pop_tbk, o5, o6', o7', o8', o9'⟩, nb, nv', ⟨kk 2 xc.1, fun z => kk 4 (xc.2 z)⟩⟩
theorem e_skip0 {N : Nat} {S : CS} {c : Int32} (h : ¬ S.i 43 = c) : f_X1_skip N S c = some (0, S) := by
  unfold f_X1_skip f_X1_skip_17
  rw [e_fnd0 h, ob_some]
  exact (if_pos rfl).trans (if_pos (Or.inl rfl))
theorem e_skip1 {N : Nat} {S : CS} {c : Int32} {V : Int32 × CS} (h : S.i 43 = c) (e : f_X1_skip N S c = some V) : ∃ p : Unit × CS, f_X9_advance N S = some p ∧ V = (1, p.2) := by
  unfold f_X1_skip f_X1_skip_17 at e
  rw [e_fnd1 h, ob_some, if_neg n10] at e
  obtain ⟨p, e1, e⟩ := hf_bind e
  rw [if_pos (Or.inr rfl)] at e
  cases e
  exact ⟨p, e1, rfl⟩
theorem lpb_conj {N : Nat} {E1 : CS → Option (Unit × CS)} {E2 : CS → Option (Int32 × CS)} (hm1 : ∀ σ, Kf (CS.i σ 32) (E1 σ)) (hm2 : ∀ σ, Kf (CS.i σ 32) (E2 σ)) : LPB N 132 32 E2 (f_X1_conjunction_27 N E1 E2) := by
  refine ⟨fun _ _ _ => rfl, fun n S y x R e => ?_, fun n S y x R e h => by rw [kF_X1_conjunction_27 N E1 E2 hm1 hm2 n S y x R e h]; exact h⟩
  have e' : b_X1_conjunction_27 N E1 E2 (f_X1_conjunction_27 N E1 E2 n) S y x = some R := e
  unfold b_X1_conjunction_27 f_X1_conjunction_65 at e'
  by_cases c9 : (900 : Int32) ≤ x
  · rw [if_pos c9] at e'
    obtain ⟨w, ew, e'⟩ := hf_bind e'
    cases e'
    exact Or.inl ⟨Or.inl c9, w, ew, rfl⟩
  · rw [if_neg c9] at e'
    by_cases c : S.i 43 = 132
    · obtain ⟨v, ev, e'⟩ := hf_bind e'
      obtain ⟨p, ep, hv⟩ := e_skip1 c ev
      rw [hv, if_neg n10] at e'
      obtain ⟨w, ew, e'⟩ := hf_bind e'
      obtain ⟨q, eq, e'⟩ := hf_bind e'
      exact Or.inr ⟨c9, c, p, w, q, ep, ew, eq, e'⟩
    · rw [e_skip0 c, ob_some, if_pos rfl] at e'
      obtain ⟨w, ew, e'⟩ := hf_bind e'
      cases e'
      exact Or.inl ⟨Or.inr c, w, ew, rfl⟩
theorem lpb_cond {N : Nat} {E1 : CS → Option (Unit × CS)} {E2 : CS → Option (Int32 × CS)} (hm1 : ∀ σ, Kf (CS.i σ 32) (E1 σ)) (hm2 : ∀ σ, Kf (CS.i σ 32) (E2 σ)) : LPB N 133 33 (f_X1_conjunction N E1 E2) (f_X1_condition_27 N E1 E2) := by
  refine ⟨fun _ _ _ => rfl, fun n S y x R e => ?_, fun n S y x R e h => by rw [kF_X1_condition_27 N E1 E2 hm1 hm2 n S y x R e h]; exact h⟩
  have e' : b_X1_condition_27 N E1 E2 (f_X1_condition_27 N E1 E2 n) S y x = some R := e
  unfold b_X1_condition_27 f_X1_condition_65 at e'
  by_cases c9 : (900 : Int32) ≤ x
  · rw [if_pos c9] at e'
    obtain ⟨w, ew, e'⟩ := hf_bind e'
    cases e'
    exact Or.inl ⟨Or.inl c9, w, ew, rfl⟩
  · rw [if_neg c9] at e'
    by_cases c : S.i 43 = 133
    · obtain ⟨v, ev, e'⟩ := hf_bind e'
      obtain ⟨p, ep, hv⟩ := e_skip1 c ev
      rw [hv, if_neg n10] at e'
      obtain ⟨w, ew, e'⟩ := hf_bind e'
      obtain ⟨q, eq, e'⟩ := hf_bind e'
      exact Or.inr ⟨c9, c, p, w, q, ep, ew, eq, e'⟩
    · rw [e_skip0 c, ob_some, if_pos rfl] at e'
      obtain ⟨w, ew, e'⟩ := hf_bind e'
      cases e'
      exact Or.inl ⟨Or.inr c, w, ew, rfl⟩
theorem sx_conjunction {N : Nat} (hN : 1000 ≤ N) {E1 : CS → Option (Unit × CS)} {E2 : CS → Option (Int32 × CS)} (hm1 : ∀ σ, Kf (CS.i σ 32) (E1 σ)) (hm2 : ∀ σ, Kf (CS.i σ 32) (E2 σ)) (hE : SXN N 22 E2) : SXN N 21 (f_X1_conjunction N E1 E2) := sx_both hN (sg := 304) (op := 12) hE (Or.inl ⟨rfl, rfl, rfl⟩) (lpb_conj hm1 hm2) (by decide) (Or.inl ⟨by decide, by decide⟩) (by decide) (fun n s U t g ht h15 hk => rl_21 g ht h15 hk)
theorem sx_condition {N : Nat} (hN : 1000 ≤ N) {E1 : CS → Option (Unit × CS)} {E2 : CS → Option (Int32 × CS)} (hm1 : ∀ σ, Kf (CS.i σ 32) (E1 σ)) (hm2 : ∀ σ, Kf (CS.i σ 32) (E2 σ)) (hE : SXN N 22 E2) : SXN N 20 (f_X1_condition N E1 E2) := sx_both hN (sg := 305) (op := 11) (sx_conjunction hN hm1 hm2 hE) (Or.inr ⟨rfl, rfl, rfl⟩) (lpb_cond hm1 hm2) (by decide) (Or.inl ⟨by decide, by decide⟩) (by decide) (fun n s U t g ht h15 hk => rl_20 g ht h15 hk)
end
section
/-! both readers: names that are seen -/
theorem f_lo {N : Nat} {S : CS} {l : Int64} : ∀ (n : Nat) (x : Int32) (P : Int32 × CS), 0 ≤ x.toInt → x.toInt ≤ 128 → f_X4_find_2 N n S l x = some P → P.2 = S ∧ ((P.1 = -1 ∧ ∀ k : Nat, x.toInt ≤ (k : Int) → (k : Int) < (S.i 50).toInt → k < 128 → ¬ S.b 47 k = l) ∨ (∃ k : Nat, (k : Int) < (S.i 50).toInt ∧ k < 128 ∧ P.1.toInt = (k : Int) ∧ S.b 47 k = l))
  | 0, _, _, _, _, e => by cases e
  | n + 1, x, P, h0, h8, e => by
    have e' : b_X4_find_2 N (f_X4_find_2 N n) S l x = some P := e
    unfold b_X4_find_2 f_X4_find_38 at e'
    have e128 : (128 : Int32).toInt = 128 := by decide
    by_cases c : S.i 50 ≤ x
    · rw [if_pos c] at e'
      cases e'
      have := le_int c
      exact ⟨rfl, Or.inl ⟨rfl, fun k h1 h2 _ => by omega⟩⟩
    · rw [if_neg c] at e'
      have lt := lt_int (Int32.not_le.mp c)
      by_cases c2 : (128 : Int32) ≤ x
      · rw [if_pos c2] at e'
        cases e'
        have := le_int c2
        exact ⟨rfl, Or.inl ⟨rfl, fun k h1 h2 h3 => by omega⟩⟩
      · rw [if_neg c2] at e'
        have lt2 := lt_int (Int32.not_le.mp c2)
        obtain ⟨hib, e'⟩ := hf_ite e'
        have ck := clampI h0
        by_cases d : lg_cmp (S.b 47 x.toNatClampNeg) l = 0
        · rw [if_pos d] at e'
          cases e'
          exact ⟨rfl, Or.inr ⟨x.toNatClampNeg, by omega, by omega, by show x.toInt = (x.toNatClampNeg : Int); omega, lg_eq d⟩⟩
        · rw [if_neg d] at e'
          have e1 : (x + 1).toInt = x.toInt + 1 := ad1 h0 (by omega)
          have nd : ¬ S.b 47 x.toNatClampNeg = l := fun q => d (lgc_eq.mpr q)
          obtain ⟨p1, p2⟩ := f_lo n (x + 1) P (by omega) (by omega) e'
          refine ⟨p1, ?_⟩
          rcases p2 with ⟨q1, q2⟩ | q
          · refine Or.inl ⟨q1, fun k h1 h2 h3 => ?_⟩
            by_cases z : (k : Int) = x.toInt
            · have : k = x.toNatClampNeg := by omega
              rw [this]
              exact nd
            · exact q2 k (by omega) h2 h3
          · exact Or.inr q
theorem f_hi {N : Nat} {s : RS} {l : Int64} : ∀ (n : Nat) (x : Int32) (P : Int32 × RS), -1 ≤ x.toInt → f_X12_seenAs_7 N n s l x = some P → P.2 = s ∧ ((P.1 = -1 ∧ ∀ k : Nat, (k : Int) ≤ x.toInt → ¬ s.b 39 k = l) ∨ (∃ k : Nat, (k : Int) ≤ x.toInt ∧ P.1.toInt = (k : Int) ∧ s.b 39 k = l))
  | 0, _, _, _, e => by cases e
  | n + 1, x, P, h0, e => by
    have e' : b_X12_seenAs_7 N (f_X12_seenAs_7 N n) s l x = some P := e
    unfold b_X12_seenAs_7 at e'
    by_cases c : x < 0
    · rw [if_pos c] at e'
      cases e'
      have := lt_int c
      rw [z_t0] at this
      exact ⟨rfl, Or.inl ⟨rfl, fun k h1 => by omega⟩⟩
    · rw [if_neg c] at e'
      have ge := le_int (Int32.not_lt.mp c)
      rw [z_t0] at ge
      obtain ⟨hib, e'⟩ := hf_ite e'
      have ck := clampI ge
      by_cases d : lg_cmp (s.b 39 x.toNatClampNeg) l = 0
      · rw [if_pos d] at e'
        cases e'
        exact ⟨rfl, Or.inr ⟨x.toNatClampNeg, by omega, by show x.toInt = (x.toNatClampNeg : Int); omega, lg_eq d⟩⟩
      · rw [if_neg d] at e'
        have em : (-1 : Int32).toInt = -1 := by decide
        have hi := Int32.toInt_lt x
        have e1 : (x + (-1)).toInt = x.toInt - 1 := by rw [toInt_add] <;> rw [em] <;> omega
        have nd : ¬ s.b 39 x.toNatClampNeg = l := fun q => d (lgc_eq.mpr q)
        obtain ⟨p1, p2⟩ := f_hi n (x + (-1)) P (by omega) e'
        refine ⟨p1, ?_⟩
        rcases p2 with ⟨q1, q2⟩ | ⟨k, k1, k2, k3⟩
        · refine Or.inl ⟨q1, fun k h1 => ?_⟩
          by_cases z : (k : Int) = x.toInt
          · have : k = x.toNatClampNeg := by omega
            rw [this]
            exact nd
          · exact q2 k (by omega)
        · exact Or.inr ⟨k, by omega, k2, k3⟩
theorem nms_hi {d : Int32} {S : CS} {s : RS} (h : ENV d S s) : 2 ≤ (s.i 38).toInt ∧ (s.i 38).toInt < 128 := by
  have hi := i11_hi h
  have n2 := h.2.1.2.1
  omega
/-- a name is seen in both, at the same place, or in none -/
theorem y_find {N : Nat} {d : Int32} {S : CS} {s : RS} {l : Int64} {P : Int32 × CS} {Q : Int32 × RS} (h : ENV d S s) (e : f_X4_find N S l = some P) (g : f_X12_seenAs N s l = some Q) : P.2 = S ∧ Q.2 = s ∧ P.1 = Q.1 ∧ (P.1 = -1 ∨ ∃ k : Nat, P.1.toInt = (k : Int) ∧ (k : Int) < (s.i 38).toInt ∧ S.b 47 k = l ∧ s.b 39 k = l) ∧ (P.1 = -1 → ∀ k : Nat, (k : Int) < (s.i 38).toInt → ¬ s.b 39 k = l) := by
  have hn := nms_hi h
  obtain ⟨n1, n2, n3, n4⟩ := h.2.1
  have e' : f_X4_find_2 N N S l 0 = some P := e
  have g' : f_X12_seenAs_7 N N s l (s.i 38 - 1) = some Q := g
  have e1 : (1 : Int32).toInt = 1 := by decide
  have em : (-1 : Int32).toInt = -1 := by decide
  have es : (s.i 38 - 1).toInt = (s.i 38).toInt - 1 := by rw [toInt_sub] <;> rw [e1] <;> omega
  obtain ⟨a1, a2⟩ := f_lo N 0 P (by decide) (by decide) e'
  obtain ⟨b1, b2⟩ := f_hi N (s.i 38 - 1) Q (by omega) g'
  rw [n1] at a2
  rcases a2 with ⟨q1, q2⟩ | ⟨k, k1, k2, k3, k4⟩
  · have no : ∀ k : Nat, (k : Int) < (s.i 38).toInt → ¬ s.b 39 k = l := fun k hk q => q2 k (by rw [z_t0]; omega) hk (by omega) ((n3 k hk).1.trans q)
    rcases b2 with ⟨r1, -⟩ | ⟨j, j1, j2, j3⟩
    · exact ⟨a1, b1, q1.trans r1.symm, Or.inl q1, fun _ => no⟩
    · exact absurd j3 (no j (by omega))
  · have k5 : s.b 39 k = l := (n3 k k1).1.symm.trans k4
    rcases b2 with ⟨-, r2⟩ | ⟨j, j1, j2, j3⟩
    · exact absurd k5 (r2 k (by omega))
    · have jk : j = k := by
        rcases Nat.lt_trichotomy j k with z | z | z
        · exact absurd (j3.trans k5.symm) (n4 j k z k1)
        · exact z
        · exact absurd (k5.trans j3.symm) (n4 k j z (by omega))
      refine ⟨a1, b1, Int32.toInt_inj.mp (by rw [k3, j2, jk]), Or.inr ⟨k, k3, k1, k4, k5⟩, fun q => ?_⟩
      rw [q, em] at k3
      omega
/-! a sign that opens, one that closes -/
theorem TKR.kd {S R : CS} {s : RS} (h : TKR S s) (e44 : R.i 44 = S.i 44) (e42 : R.i 42 = S.i 42) (e43 : R.i 43 = S.i 43) (el : R.l = S.l) (e45 : R.i 45 = S.i 45) : TKR R s := ⟨by rw [e44]; exact h.1, by rw [e42]; exact h.2.1, by rw [e43]; exact h.2.2.1, by rw [e43]; exact h.2.2.2.1, fun q => by rw [e43] at q; rw [el]; exact h.2.2.2.2.1 q, fun q => by rw [e43] at q; rw [e45]; exact h.2.2.2.2.2 q⟩
/-- the number of open signs is another in both -/
theorem ENV.sg {d : Int32} {S : CS} {s : RS} {v w : Int32} (h : ENV d S s) (hvw : v = w) (h0 : 0 ≤ w.toInt) (h9 : w.toInt ≤ 20) (hs : SGS S (cnI S).toNat ≤ v.toInt) : ENV d (CS.setI S 34 v) (RS.setI s 19 w) := by
  obtain ⟨⟨h1, h2, h3, h4, h5, h6, h7, h8⟩, n, -, c, l, k, ⟨r1, r2, r3, r4, r5, r6, r7, r8, r9, r10, r11⟩⟩ := h
  exact ⟨⟨h1, h2, h3, h4, h5, h6, h7, h8⟩, n, ⟨hvw, h0, h9⟩, c, l, k, ⟨r1, r2, r3, r4, r5, r6, r7, r8.mv rfl rfl rfl rfl ⟨rfl, rfl, rfl⟩ (show SGS S (cnI S).toNat ≤ sgI (CS.setI S 34 v) from hs) (Int.le_refl _), r9, r10, r11⟩⟩
/-- what comes of a sign that opens -/
theorem y_open {N : Nat} (hN : 1000 ≤ N) {dl : Int32} {S : CS} {s : RS} {R : Unit × CS} {V : Int32 × RS} {c d : Int32} (h : ENV dl S s) (hc : tyR c) (hd : tm c = d) (h6 : ¬ d = 6) (h0 : ¬ c = 0) (e : f_X1_open N S c = some R) (g : f_X12_open N s d = some V) : (V.1 = 0 ∧ ¬ R.2.i 32 = 0 ∧ ¬ V.2.i 15 = 0) ∨ (V.1 = 1 ∧ S.i 43 = c ∧ ENV dl R.2 V.2 ∧ qj V.2 = qj s ∧ pj R.2 = pj S ∧ V.2.i 17 = s.i 17 + 1 ∧ (s.i 11).toInt + 1 ≤ (V.2.i 11).toInt ∧ V.2.i 20 = s.i 20 ∧ V.2.a 22 = s.a 22 ∧ R.2.i 22 = S.i 22 ∧ A18 S R.2 ∧ (V.2.i 19).toInt = (s.i 19).toInt + 1) := by
  have is := h.1.2.2.2.1.is hc hd
  have h15 := h.1.2.1
  have ho := h.2.2.1
  have e20 : (20 : Int32).toInt = 20 := by decide
  have s19 : (s.i 19 + 1).toInt = (s.i 19).toInt + 1 := ad1 ho.2.1 (by omega)
  unfold f_X1_open at e
  unfold f_X12_open f_X12_open_27 f_X12_open_38 f_X12_opens f_X12_opens_29 at g
  rw [if_pos h15] at g
  by_cases k : S.i 43 = c
  · have k' := is.mp k
    rw [e_fnd1 k, ob_some, if_neg n10] at e
    rw [if_pos k', y_can1 h15 (by rw [k']; exact h6), ob_some, if_neg n10] at g
    by_cases o : (s.i 19).toInt < 20
    · have c1 : S.i 34 < 20 := by rw [ho.1, Int32.lt_iff_toInt_lt]; omega
      have c2 : s.i 19 + 1 ≤ 20 := by rw [Int32.le_iff_toInt_le]; omega
      have c3 : (RS.setI s 19 (s.i 19 + 1)).i 15 = 0 := h15
      have e2 : (f_X9_advance N (CS.setI S 34 (S.i 34 + 1))).bind (fun p7 => some ((), p7.2)) = some R := (if_pos c1).symm.trans e
      rw [if_pos c2, if_pos c3, ob_some, if_neg n10] at g
      obtain ⟨p, ep, e2⟩ := hf_bind e2
      obtain ⟨q, gq, g⟩ := hf_bind g
      have hv : ENV dl (CS.setI S 34 (S.i 34 + 1)) (RS.setI s 19 (s.i 19 + 1)) := h.sg (by rw [ho.1]) (by omega) (by omega) (by
        have := h.ri.2.2.2.2.2.2
        unfold sgI at this
        rw [ho.1] at this ⊢
        omega)
      obtain ⟨a1, a2, a3, a4, a5, a6, a7, a8, a9, a10⟩ := hv.adv hN (fun z => h0 (k.symm.trans z)) ep gq
      rw [if_pos a1.1.2.1] at g
      cases e2
      cases g
      exact Or.inr ⟨rfl, k, a1, a2, a3, a4, a5, a6, a7, a8, a9, by rw [a10]; exact s19⟩
    · have c1 : ¬ S.i 34 < 20 := fun z => by
        have := lt_int z
        rw [ho.1] at this
        omega
      have c2 : ¬ s.i 19 + 1 ≤ 20 := fun z => by
        have := le_int z
        omega
      have e2 : (f_X1_fail N S 6 (S.i 44)).bind (fun p11 => some ((), p11.2)) = some R := (if_neg c1).symm.trans e
      obtain ⟨p, ep, e2⟩ := hf_bind e2
      cases e2
      rw [if_neg c2, e_fail, ob_some] at g
      have c3 : (RS.setI s 19 (s.i 19 + 1)).i 15 = 0 := h15
      rw [if_pos c3] at g
      have c4 : ¬ ((RS.setI (RS.setI s 19 (s.i 19 + 1)) 15 6).setI 16 (s.i 11)).i 15 = 0 := by
        show ¬ (6 : Int32) = 0
        decide
      rw [if_neg c4, ob_some, if_pos rfl, if_neg c4] at g
      cases g
      exact Or.inl ⟨rfl, y_fail (by decide) ep, c4⟩
  · have k' : ¬ s.i 10 = d := fun q => k (is.mpr q)
    rw [e_fnd0 k, ob_some, if_pos rfl] at e
    rw [if_neg k'] at g
    obtain ⟨p, ep, e⟩ := hf_bind e
    obtain ⟨q, gq, g⟩ := hf_bind g
    obtain ⟨q1, q2⟩ := y_can0 gq
    rw [if_pos q1, if_neg q2] at g
    cases e
    cases g
    exact Or.inl ⟨rfl, y_misp ep, q2⟩
/-- what comes of a sign that closes -/
theorem y_close {N : Nat} (hN : 1000 ≤ N) {dl : Int32} {S : CS} {s : RS} {R : Unit × CS} {V : Int32 × RS} {c d : Int32} (h : ENV dl S s) (h1 : SGS S (cnI S).toNat + 1 ≤ sgI S) (hc : tyR c) (hd : tm c = d) (h6 : ¬ d = 6) (h0 : ¬ c = 0) (e : f_X1_close N S c = some R) (g : f_X12_shut N s d = some V) : (V.1 = 0 ∧ ¬ R.2.i 32 = 0 ∧ ¬ V.2.i 15 = 0) ∨ (V.1 = 1 ∧ S.i 43 = c ∧ ENV dl R.2 V.2 ∧ qj V.2 = qj s ∧ pj R.2 = pj S ∧ V.2.i 17 = s.i 17 + 1 ∧ (s.i 11).toInt + 1 ≤ (V.2.i 11).toInt ∧ V.2.i 20 = s.i 20 ∧ V.2.a 22 = s.a 22 ∧ R.2.i 22 = S.i 22 ∧ A18 S R.2 ∧ (V.2.i 19).toInt = (s.i 19).toInt - 1) := by
  have is := h.1.2.2.2.1.is hc hd
  have h15 := h.1.2.1
  have ho := h.2.2.1
  have e1 : (1 : Int32).toInt = 1 := by decide
  unfold f_X1_close f_X1_close_22 at e
  unfold f_X12_shut f_X12_shut_18 f_X12_need f_X12_need_27 f_X12_need_31 at g
  rw [if_pos h15] at g
  by_cases k : S.i 43 = c
  · have k' := is.mp k
    rw [e_fnd1 k, ob_some, if_neg n10] at e
    rw [if_pos k', y_can1 h15 (by rw [k']; exact h6), ob_some, if_neg n10] at g
    obtain ⟨p, ep, e⟩ := hf_bind e
    obtain ⟨w, gw, g⟩ := hf_bind g
    obtain ⟨q, gq, gw⟩ := hf_bind gw
    obtain ⟨a1, a2, a3, a4, a5, a6, a7, a8, a9, a10⟩ := h.adv hN (fun z => h0 (k.symm.trans z)) ep gq
    rw [if_pos a1.1.2.1] at gw
    cases gw
    have g2 : (if (RS.setI q 19 (q.i 19 - 1)).i 15 = 0 then some ((1 : Int32), RS.setI q 19 (q.i 19 - 1)) else some (0, RS.setI q 19 (q.i 19 - 1))) = some V := (if_neg n10).symm.trans g
    rw [if_pos (show (RS.setI q 19 (q.i 19 - 1)).i 15 = 0 from a1.1.2.1)] at g2
    cases e
    cases g2
    have sg0 : 1 ≤ (s.i 19).toInt := by
      have := (BAS (s := S) (cnI S).toNat).2.2.2.1
      unfold sgI at h1
      rw [ho.1] at h1
      omega
    have s19 : (q.i 19 - 1).toInt = (s.i 19).toInt - 1 := by
      rw [a10, toInt_sub] <;> rw [e1] <;> omega
    have o2 := a1.2.2.1
    exact Or.inr ⟨rfl, k, a1.sg (by rw [o2.1]) (by omega) (by omega) (by
      rw [((CKX.of a3 a8 a9).sum h.ri).1, o2.1, s19]
      unfold sgI at h1
      rw [ho.1] at h1
      omega), a2, a3, a4, a5, a6, a7, a8, a9, s19⟩
  · have k' : ¬ s.i 10 = d := fun q => k (is.mpr q)
    rw [e_fnd0 k, ob_some, if_pos rfl] at e
    rw [if_neg k'] at g
    obtain ⟨p, ep, e⟩ := hf_bind e
    obtain ⟨w, gw, g⟩ := hf_bind g
    obtain ⟨q, gq, gw⟩ := hf_bind gw
    obtain ⟨q1, q2⟩ := y_can0 gq
    rw [if_pos q1, if_neg q2] at gw
    cases gw
    have g2 : (if q.2.i 15 = 0 then some ((1 : Int32), q.2) else some (0, q.2)) = some V := (if_pos rfl).symm.trans g
    rw [if_neg q2] at g2
    cases e
    cases g2
    exact Or.inl ⟨rfl, (show ¬ p.2.i 32 = 0 from y_misp ep), q2⟩
/-- a token on, by any method that lays nothing -/
theorem tok_cd {d : Int32} {S R : CS} {s u : RS} {d' : Int32} (h : ENV d S s) (v : ENV d' R u) (kp : pj R = pj S) (ke : pe R = pe S) (ke' : qe u = qe s) (q11 : (s.i 11).toInt + 1 ≤ (u.i 11).toInt) : CD1 (-1) (-1) S R ∧ (∀ a b : Int, CT7 a b S R) ∧ (∀ c : Int, CD2 c s u) ∧ R.i 20 = S.i 20 ∧ R.i 21 = S.i 21 ∧ u.i 20 = s.i 20 := by
  obtain ⟨-, -, -, -, -, -, -, -, -, -, -, -, -, i50, -, -, -, -, -, -, a48, a49, -, -, -, -, -, i21, -⟩ := pj_eq kp
  have e1 := h.p44.1
  have e2 := v.p44.1
  have l : (S.i 44).toInt + 1 ≤ (R.i 44).toInt := by rw [e1, e2]; exact q11
  exact ⟨CD1.pe (b := 1) ke i21 i50 a48 a49 l, fun a b => CT7.eq (pe_eq ke).2.2.2.1, fun c => CD2.qe ke', (pe_eq ke).1, i21, (qe_eq ke').1.1⟩
/-- one instruction in both, then a token on -/
theorem cde_one {N : Nat} (hN : 1000 ≤ N) {d : Int32} {S : CS} {s U v9 : RS} {o x op v k : Int32} {g : Nat} {p2 p6 : Unit × CS} {w : Int32 × RS} (hv : ENV d S s) (h3 : 1 ≤ phI s) (ha : f_X0_add N S o x = some p2) (hw : f_X12_emit N s op v = some w) (hv1 : ENV d p2.2 w.2) (nz : ¬ p2.2.i 43 = 0) (e2 : f_X9_advance N p2.2 = some p6) (hw2 : f_X12_next N w.2 = some v9) (step : ∀ (FC : Nat → Prop) (SF : CS) (nm : Nat → Nat → Prop) (X : Als) (c : List Ent) (h w1 g0 : Nat), PQX SF U (pcC S) (pcR s) → HC0 nm h c → h < 600 → NMG nm c S s → SF.a 15 (pcC S) = o → SF.a 16 (pcC S) = x → U.a 21 (pcR s) = op → U.a 22 (pcR s) = v → GU FC SF U nm X (pcC S + 1) (pcR s + 1) (h + 1) w1 g c → GU FC SF U nm X (pcC S) (pcR s) h (w1 + 1) g0 c) : CDE g U S s p6.2 (RS.setI v9 63 k) := by
  intro cr
  have q44 := hv.p44
  have q44' : (S.i 44).toInt = (s.i 11).toInt := by rw [q44.1]
  have p20 := hv.p20
  obtain ⟨d1, d2, ⟨d3, d3'⟩, d4, d5, d6⟩ := cd_add ha cr.1.1 (by have := cr.1.2; omega)
  obtain ⟨m1, m2, m3, m4, m5, m6⟩ := cd_emit hw p20.1 (by omega)
  obtain ⟨a1, a2, a3, a4, a5, a6, a7⟩ := adv_cd hN hv1 nz e2 hw2
  have pS : ((pcC S : Nat) : Int) = (S.i 20).toInt := Int.toNat_of_nonneg cr.1.1
  have ps : ((pcR s : Nat) : Int) = (s.i 20).toInt := Int.toNat_of_nonneg p20.1
  have pR : pcC p6.2 = pcC S + 1 := by
    unfold pcC
    rw [a4, d2]
    have := cr.1.1
    omega
  have pu : pcR (RS.setI v9 63 k) = pcR s + 1 := by
    unfold pcR
    rw [show (RS.setI v9 63 k).i 20 = v9.i 20 from rfl, a6, m3]
    have := p20.1
    omega
  refine ⟨(d1.tr a1).wk (by omega) (by omega), (CT7.eq d4).tr (a2 _ _), (m1.tr (a3 _)).tr (CD2.qe rfl), ?_⟩
  refine ⟨GPS.tt, SAT.tt _ _ _ _ ((m1.tr (a3 _)).tr (CD2.qe rfl)).1.2.2.2.2.1, ?_⟩
  intro FC SF nm X c h w1 W g0 ps fc fr ng hc hh ty hW hg z
  have f15 := fc.2.1 (pcC S) (by omega) (by rw [a4]; omega)
  have k15 := a1.2.1 (pcC S) (by omega)
  have u21 := fr.2.1 (pcR s) (by omega) (by show _ < (v9.i 20).toInt; rw [a6]; omega)
  have x21 := (a3 (w.2.i 20).toInt).2.1 (pcR s) (by omega)
  have fr1 : (v9.i 20).toInt ≤ (U.i 20).toInt := fr.1.2.1
  rw [a6] at fr1
  rw [pR, pu] at z
  rw [pR, show w1 + (pcC S + 1 - pcC S) = w1 + 1 by omega]
  exact step FC SF nm X c h w1 g0 ⟨by have := cr.1.2; omega, by omega, fr.1.2.2⟩ hc (by omega) ng (by rw [f15.1, k15.1]; exact d3) (by rw [f15.2, k15.2]; exact d3') (by rw [u21.1]; show v9.a 21 (pcR s) = op; rw [x21.1]; exact m4) (by rw [u21.2.1]; show v9.a 22 (pcR s) = v; rw [x21.2.1]; exact m5) z
end
section
/-! both readers: a factor -/
theorem tk_is {d : Int32} {S : CS} {s : RS} (h : ENV d S s) {a b : Int32} (hc : tyR a) (e : tm a = b) : S.i 43 = a ↔ s.i 10 = b := h.1.2.2.2.1.is hc e
/-- a fault of the reference ends all -/
theorem u_flt {N n : Nat} {V U : RS} (g : f_X12_parse_10 N n V = some U) (h : ¬ V.i 15 = 0) : ¬ U.i 15 = 0 := by rw [rl_f g h]; exact h
theorem o19 {a b : RS} (h : (a.i 19).toInt = (b.i 19).toInt) : a.i 19 = b.i 19 := Int32.toInt_inj.mp h
/-- opens, then next: as open does it -/
theorem e_open {N : Nat} {s : RS} {d : Int32} (h15 : s.i 15 = 0) (h10 : s.i 10 = d) (h6 : ¬ d = 6) : f_X12_open N s d = (f_X12_opens N s).bind fun p7 => (if p7.1 = 0 then f_X12_open_38 N p7.2 else (f_X12_next N p7.2).bind fun p10 => f_X12_open_38 N p10) := by
  unfold f_X12_open f_X12_open_27
  rw [if_pos h15, if_pos h10, y_can1 h15 (by rw [h10]; exact h6), ob_some]
  exact if_neg n10
/-- a choice, from its word on -/
def SXC (N : Nat) (E : CS → Option (Unit × CS)) : Prop := ∀ (d : Int32) (S : CS) (s U : RS) (n t : Nat) (R : Unit × CS), ENV d S s → tpI s = t → s.a 64 t = 19 → s.a 65 t = 0 → 3 ≤ phI s → S.i 43 = 218 → E S = some R → f_X12_parse_10 N n s = some U → (¬ R.2.i 32 = 0 ∧ ¬ U.i 15 = 0) ∨ ∃ (m : Nat) (u : RS), f_X12_parse_10 N m u = some U ∧ XO d t S s R.2 u ∧ CDE 0 U S s R.2 u
set_option maxHeartbeats 4000000 in
theorem sx_factor {N : Nat} (hN : 1000 ≤ N) {E1 : CS → Option (Unit × CS)} {E2 : CS → Option (Int32 × CS)} (hm1 : ∀ σ, Kf (CS.i σ 32) (E1 σ)) (hm2 : ∀ σ, Kf (CS.i σ 32) (E2 σ)) (hE : SXR N 18 E1) (hA : SXC N (f_X1_choice N E1 E2)) : SXR N 18 (f_X1_factor N E1 E2) := by
  intro d S s U n t R hv ht hk hs h3 e g
  have h15 := hv.1.2.1
  have en := tp_nat ht
  obtain ⟨m, V, hV, g2⟩ := rl_18 g ht h15 hk
  have t9 : t < 1000 := by
    have := (rl_0 g ht h15).2.1.2
    have h2 : (s.i 63).toInt = (t : Int) := ht
    omega
  have i1 := tk_is hv (a := 1) (b := 1) (Or.inl ⟨by decide, by decide⟩) (by decide)
  have i2 := tk_is hv (a := 2) (b := 2) (Or.inl ⟨by decide, by decide⟩) (by decide)
  have i45 := tk_is hv (a := 45) (b := 45) (Or.inl ⟨by decide, by decide⟩) (by decide)
  have i40 := tk_is hv (a := 40) (b := 40) (Or.inl ⟨by decide, by decide⟩) (by decide)
  have isw := tk_is hv (a := 218) (b := 428) (Or.inr ⟨by decide, by decide⟩) (by decide)
  unfold f_X12_factor f_X12_factor_124 f_X12_factor_215 at hV
  obtain ⟨hib, hV⟩ := hf_ite hV
  rw [en, if_neg (by rw [hs]; decide), if_neg (by rw [hs]; decide)] at hV
  unfold f_X1_factor at e
  have n6 : ∀ v : Int32, ¬ v = 6 → s.i 10 = v → f_X12_can N s 1 = some (1, s) := fun v hv6 q => y_can1 h15 (by rw [q]; exact hv6)
  by_cases c1 : S.i 43 = 1
  · have k1 := i1.mp c1
    rw [if_pos c1] at e
    obtain ⟨p2, e1, e⟩ := hf_bind e
    obtain ⟨p6, e2, e⟩ := hf_bind e
    cases e
    rw [if_pos k1, n6 1 (by decide) k1, ob_some, if_neg n10, if_pos k1] at hV
    obtain ⟨w, hw, hV⟩ := hf_bind hV
    obtain ⟨v, hw2, hV⟩ := hf_bind hV
    cases hV
    obtain ⟨w1, w2, w3, w4, -, -⟩ := em_env hv (by omega) hw
    obtain ⟨kq, y10, y11, -, -, -, -, y17, y19, -⟩ := qj2_eq w3
    have kd := kd_X0_add N S 0 (S.i 45) p2 e1
    obtain ⟨kp, -, -, -, e22, -, -, e43, -, -, -, e18⟩ := pj2_eq kd
    obtain ⟨a1, a2, a3, a4, a5, a6, a7, a8, a9, a10⟩ := (w1.kd kd).adv hN (by rw [e43, c1]; decide) e2 hw2
    have tv : tpI v = t := by
      have r1 : v.i 63 = w.2.i 63 := congrArg (fun v : QJT => v.1.2.2.2.2.2.2.2.2.2.2.2.2.2.2.2.2.1) a2
      have r2 : w.2.i 63 = s.i 63 := congrArg (fun v : QJT => v.1.2.2.2.2.2.2.2.2.2.2.2.2.2.2.2.2.1) kq
      show (v.i 63).toInt = (t : Int)
      rw [r1, r2]
      exact ht
    have t17 : (v.i 17).toInt = (s.i 17).toInt + 1 := by rw [a4, y17]; exact t17_up (N := N) hv
    refine Or.inr ⟨m, _, g2, ⟨pop_env a1, tp_sub tv t9, ((FRB.of kq).tr (FRB.of a2)).tr pop_frb, (w2.tr (TBK.of a2 (by rw [a6]; exact Int.le_refl _) (fun j _ => by rw [a7]))).tr pop_tbk, (CKX.of kp e22 e18).tr (CKX.of a3 a8 a9), ?_, ?_, ?_, ?_⟩, ?_⟩
    · show (s.i 11).toInt + 1 ≤ (v.i 11).toInt
      rw [y11] at a5
      exact a5
    · show phI s + 1 ≤ phI v
      have : phI v = phI w.2 + 3 := by
        unfold phI
        rw [a6, t17, y17]
        omega
      omega
    · show (s.i 17).toInt + 1 ≤ (v.i 17).toInt
      omega
    · exact a10.trans y19
    · exact cde_one hN hv (by omega) e1 hw (w1.kd kd) (by rw [e43, c1]; decide) e2 hw2 (fun FC SF nm X c h w1' g0 pq hc hh ng x1 x2 x3 x4 z => gs_push pq hc x1 x3 (by rw [x2, x4]; exact hv.1.2.2.2.1.2.2.2.2.2 (Or.inl c1)) hh (Or.inl rfl) z)
  rw [if_neg c1] at e
  rw [if_neg (fun q => c1 (i1.mpr q))] at hV
  by_cases c2 : S.i 43 = 2
  · have k2 := i2.mp c2
    have k1 : ¬ s.i 10 = 1 := fun q => c1 (i1.mpr q)
    rw [if_pos c2] at e
    obtain ⟨p, e1, e⟩ := hf_bind e
    cases e
    rw [if_pos k2, n6 2 (by decide) k2, ob_some, if_neg n10, if_neg k1, if_pos k2] at hV
    obtain ⟨q, hq, hV⟩ := hf_bind hV
    unfold f_X1_loadName at e1
    obtain ⟨f, hf, e1⟩ := hf_bind e1
    have el : S.l = s.l := hv.1.2.2.2.1.2.2.2.2.1 c2
    rw [el] at hf
    obtain ⟨z1, z2, z3, z4, z5⟩ := y_find hv hf hq
    rw [z1] at e1
    rw [z2] at hV
    by_cases c0 : 0 ≤ f.1
    · rw [if_pos c0] at e1
      rw [if_pos (by rw [← z3]; exact c0)] at hV
      obtain ⟨-, hV⟩ := hf_ite hV
      obtain ⟨x6, ex6, e1⟩ := hf_bind e1
      obtain ⟨x10, ex10, e1⟩ := hf_bind e1
      obtain ⟨x14, ex14, e1⟩ := hf_bind e1
      cases e1
      have kd1 := kd_X4_cellOf N S f.1 x6 ex6
      have kd2 := (kd_X0_add N x6.2 1 x6.1 x10 ex10).trans kd1
      obtain ⟨kp, -, -, -, e22, -, -, e43, -, -, -, e18⟩ := pj2_eq kd2
      have ex10' : f_X0_add N S 1 (gAt (S.a 48) 128 f.1) = some x10 := by
        unfold f_X4_cellOf at ex6
        cases ex6
        exact ex10
      have fin : ∀ (o x : Int32), (∀ (FC : Nat → Prop) (SF : CS) (nm : Nat → Nat → Prop) (X : Als) (c : List Ent) (h w1 g0 : Nat), PQX SF U (pcC S) (pcR s) → HC0 nm h c → h < 600 → NMG nm c S s → SF.a 15 (pcC S) = 1 → SF.a 16 (pcC S) = gAt (S.a 48) 128 f.1 → U.a 21 (pcR s) = o → U.a 22 (pcR s) = x → GU FC SF U nm X (pcC S + 1) (pcR s + 1) (h + 1) w1 0 c → GU FC SF U nm X (pcC S) (pcR s) h (w1 + 1) g0 c) → ((f_X12_emit N s o x).bind fun p29 => (f_X12_next N p29.2).bind fun p31 => some (RS.setI p31 63 ((p31.i 63) - 1))) = some V → (¬ x14.2.i 32 = 0 ∧ ¬ U.i 15 = 0) ∨ ∃ (m : Nat) (u : RS), f_X12_parse_10 N m u = some U ∧ XO d t S s x14.2 u ∧ CDE 0 U S s x14.2 u := fun o x step hV => by
        obtain ⟨w, hw, hV⟩ := hf_bind hV
        obtain ⟨v, hw2, hV⟩ := hf_bind hV
        cases hV
        obtain ⟨w1, w2, w3, w4, -, -⟩ := em_env hv (by omega) hw
        obtain ⟨kq, y10, y11, -, -, -, -, y17, y19, -⟩ := qj2_eq w3
        obtain ⟨a1, a2, a3, a4, a5, a6, a7, a8, a9, a10⟩ := (w1.kd kd2).adv hN (by rw [e43, c2]; decide) ex14 hw2
        have tv : tpI v = t := by
          have r1 : v.i 63 = w.2.i 63 := congrArg (fun v : QJT => v.1.2.2.2.2.2.2.2.2.2.2.2.2.2.2.2.2.1) a2
          have r2 : w.2.i 63 = s.i 63 := congrArg (fun v : QJT => v.1.2.2.2.2.2.2.2.2.2.2.2.2.2.2.2.2.1) kq
          show (v.i 63).toInt = (t : Int)
          rw [r1, r2]
          exact ht
        have t17 : (v.i 17).toInt = (s.i 17).toInt + 1 := by rw [a4, y17]; exact t17_up (N := N) hv
        refine Or.inr ⟨m, _, g2, ⟨pop_env a1, tp_sub tv t9, ((FRB.of kq).tr (FRB.of a2)).tr pop_frb, (w2.tr (TBK.of a2 (by rw [a6]; exact Int.le_refl _) (fun j _ => by rw [a7]))).tr pop_tbk, (CKX.of kp e22 e18).tr (CKX.of a3 a8 a9), ?_, ?_, ?_, ?_⟩, ?_⟩
        · show (s.i 11).toInt + 1 ≤ (v.i 11).toInt
          rw [y11] at a5
          exact a5
        · show phI s + 1 ≤ phI v
          have : phI v = phI w.2 + 3 := by
            unfold phI
            rw [a6, t17, y17]
            omega
          omega
        · show (s.i 17).toInt + 1 ≤ (v.i 17).toInt
          omega
        · exact a10.trans y19
        · exact cde_one hN hv (by omega) ex10' hw (w1.kd kd2) (by rw [e43, c2]; decide) ex14 hw2 step
      obtain ⟨k, fk, kl, -, -⟩ : ∃ k : Nat, f.1.toInt = (k : Int) ∧ (k : Int) < (s.i 38).toInt ∧ S.b 47 k = s.l ∧ s.b 39 k = s.l := by
        rcases z4 with z | z
        · rw [z] at c0
          exact absurd c0 (by decide)
        · exact z
      have k128 := (nms_hi hv).2
      have ga : gAt (S.a 48) 128 f.1 = S.a 48 k := by
        unfold gAt
        rw [if_pos ⟨by omega, by omega⟩, cl_nat fk]
      have qk : q.1.toNatClampNeg = k := by rw [← z3]; exact cl_nat fk
      have n41 := (hv.2.1.2.2.1 k kl).2
      by_cases cc : s.a 41 q.1.toNatClampNeg = 0
      · rw [if_pos cc] at hV
        rw [qk] at cc hV
        refine fin _ _ (fun FC SF nm X c h w1 g0 pq hc hh ng x1 x2 x3 x4 z => ?_) hV
        obtain ⟨a, b, y1, y2, y3⟩ := (ng.1 k kl).1 (by have : ¬ 0 ≤ (S.a 49 k).toInt := fun y => n41.mp y cc; omega)
        exact gs_load pq hc x1 x3 (by rw [x2, ga]; exact y1) (by rw [x4]; exact y2) y3 hh z
      · rw [if_neg cc] at hV
        rw [qk] at cc hV
        refine fin _ _ (fun FC SF nm X c h w1 g0 pq hc hh ng x1 x2 x3 x4 z => ?_) hV
        obtain ⟨l1, e9, l0, y00, y1, y2, y3, -⟩ := (ng.1 k kl).2 (n41.mpr cc)
        have y0 : e9 ∈ c := by
          rw [y00]
          exact List.mem_append_right _ List.mem_cons_self
        exact gs_cau pq hc x1 x3 y0 y1 (by rw [x2, ga]; exact y2) (by rw [x4]; exact y3) hh z
    · rw [if_neg c0] at e1
      rw [if_neg (by rw [← z3]; exact c0)] at hV
      obtain ⟨x, ex, e1⟩ := hf_bind e1
      cases e1
      rw [e_fail, ob_some, if_pos h15] at hV
      cases hV
      refine Or.inl ⟨y_fail (by decide) ex, u_flt g2 ?_⟩
      show ¬ (3 : Int32) = 0
      decide
  rw [if_neg c2] at e
  rw [if_neg (fun q => c2 (i2.mpr q))] at hV
  have k1 : ¬ s.i 10 = 1 := fun q => c1 (i1.mpr q)
  have k2 : ¬ s.i 10 = 2 := fun q => c2 (i2.mpr q)
  by_cases c40 : S.i 43 = 40
  · have k40 := i40.mp c40
    have k45 : ¬ s.i 10 = 45 := by rw [k40]; decide
    rw [if_pos c40] at e
    rw [if_neg k45, if_pos k40, n6 40 (by decide) k40, ob_some, if_neg n10, if_neg k1, if_neg k2, if_neg k45, if_pos k40] at hV
    obtain ⟨q, hq, hV⟩ := hf_bind hV
    rw [ob_id] at hV
    obtain ⟨p, e1, e⟩ := hf_bind e
    obtain ⟨x, e2, e⟩ := hf_bind e
    obtain ⟨y, e3, e⟩ := hf_bind e
    cases e
    have per : ¬ x.2.i 32 = 0 → ¬ y.2.i 32 = 0 := fun z => by rw [kF_X1_close N x.2 41 y e3 z]; exact z
    have per0 : ¬ p.2.i 32 = 0 → ¬ x.2.i 32 = 0 := fun z => by rw [kF_X1_expression N E1 E2 hm1 hm2 p.2 x e2 z]; exact z
    rcases y_open hN hv (c := 40) (d := 40) (Or.inl ⟨by decide, by decide⟩) (by decide) (by decide) (by decide) e1 hq with ⟨o1, o2, o3⟩ | ⟨o1, o2, o3, o4, o5, o6, o7, o8, o9, o10, o11, o12⟩
    · refine Or.inl ⟨per (per0 o2), u_flt g2 ?_⟩
      have f9 := krf_f_X12_then N q.2 2 16 V hV
      exact f9 o3
    · have tq : tpI q.2 = t := by
        have r1 : q.2.i 63 = s.i 63 := congrArg (fun v : QJT => v.1.2.2.2.2.2.2.2.2.2.2.2.2.2.2.2.2.1) o4
        show (q.2.i 63).toInt = (t : Int)
        rw [r1]
        exact ht
      obtain ⟨hV', t99⟩ := r_then tq hV
      rw [hV'] at g2
      have t17 : (q.2.i 17).toInt = (s.i 17).toInt + 1 := by rw [o6]; exact t17_up (N := N) hv
      have pq : phI q.2 = phI s + 3 := by
        unfold phI
        rw [o8, t17]
        omega
      rcases sx_expression hN hm1 hm2 hE d p.2 (TH q.2 t 2 16) U m (t + 1) x o3.th (TH.tp tq (by omega)) TH.fk TH.fs (show 3 ≤ phI q.2 by omega) e2 g2 with ⟨x1, x2⟩ | ⟨m2, u, g3, xo, xc⟩
      · exact Or.inl ⟨per x1, x2⟩
      · obtain ⟨w1, w2, w3, w4, w5, w6, w7, w8, w9⟩ := xo
        have u64 : u.a 64 t = 18 := by
          rw [(w3 t (by omega)).1, TH.fk0 (Nat.le_refl t), ((FRB.of (t := t + 1) o4) t (by omega)).1]
          exact hk
        have u65 : u.a 65 t = 2 := by
          rw [(w3 t (by omega)).2.1]
          exact TH.st
        have tu : tpI u = t := by
          rw [w2]
          omega
        have w6' : (q.2.i 11).toInt + 1 ≤ (u.i 11).toInt := w6
        have w7' : phI q.2 + 1 ≤ phI u := w7
        have w8' : (q.2.i 17).toInt + 1 ≤ (u.i 17).toInt := w8
        have w9' : u.i 19 = q.2.i 19 := w9
        obtain ⟨m3, V3, hV3, g4⟩ := rl_18 g3 tu w1.1.2.1 u64
        unfold f_X12_factor at hV3
        obtain ⟨-, hV3⟩ := hf_ite hV3
        rw [tp_nat tu, if_neg (by rw [u65]; decide), if_pos u65] at hV3
        obtain ⟨z, hz, hV3⟩ := hf_bind hV3
        cases hV3
        have ho := hv.2.2.1
        have u19 : (u.i 19).toInt = (s.i 19).toInt + 1 := by rw [w9', o12]
        rcases y_close hN w1 (sg_room hv w1 ((CKX.of o5 o10 o11).tr w5) (by omega)) (c := 41) (d := 41) (Or.inl ⟨by decide, by decide⟩) (by decide) (by decide) (by decide) e3 hz with ⟨b1, b2, b3⟩ | ⟨b1, b2, b3, b4, b5, b6, b7, b8, b9, b10, b11, b12⟩
        · exact Or.inl ⟨b2, u_flt g4 b3⟩
        · have tz : tpI z.2 = t := by
            have r1 : z.2.i 63 = u.i 63 := congrArg (fun v : QJT => v.1.2.2.2.2.2.2.2.2.2.2.2.2.2.2.2.2.1) b4
            show (z.2.i 63).toInt = (t : Int)
            rw [r1]
            exact tu
          have z17 : (z.2.i 17).toInt = (u.i 17).toInt + 1 := by rw [b6]; exact t17_up (N := N) w1
          have pz : phI z.2 = phI u + 3 := by
            unfold phI
            rw [b8, z17]
            omega
          refine Or.inr ⟨m3, _, g4, ⟨pop_env b3, tp_sub tz t9, ((((FRB.of o4).tr TH.frb).tr (w3.mo (by omega))).tr (FRB.of b4)).tr pop_frb, ((((TBK.of o4 (by rw [o8]; exact Int.le_refl _) (fun j _ => by rw [o9])).tr TH.tbk).tr w4).tr (TBK.of b4 (by rw [b8]; exact Int.le_refl _) (fun j _ => by rw [b9]))).tr pop_tbk, ((CKX.of o5 o10 o11).tr w5).tr (CKX.of b5 b10 b11), ?_, ?_, ?_, ?_⟩, fun cr => ?_⟩
          · show (s.i 11).toInt + 1 ≤ (z.2.i 11).toInt
            omega
          · show phI s + 1 ≤ phI z.2
            omega
          · show (s.i 17).toInt + 1 ≤ (z.2.i 17).toInt
            omega
          · exact o19 (by show (z.2.i 19).toInt = _; rw [b12]; omega)
          · obtain ⟨a1, a2, a3, a4, a5, a6⟩ := tok_cd hv o3 o5 (ke_X1_open N S 40 p e1) (kre_f_X12_open N s 40 q hq) o7
            have crp : CRB p.2 := cr.of a1 (by omega) (by omega)
            obtain ⟨f1, f2, f3, f4⟩ := xc crp
            have crx : CRB x.2 := crp.of f1 (by omega) (by omega)
            obtain ⟨j1, j2, j3, j4, j5, j6⟩ := tok_cd w1 b3 b5 (ke_X1_close N x.2 41 y e3) (kre_f_X12_shut N u 41 z hz) b7
            have sT : CD2 (s.i 20).toInt s (TH q.2 t 2 16) := (a3 _).tr (CD2.qe rfl)
            have su : CD2 (s.i 20).toInt s u := sT.tr (f3.wk (by show _ ≤ (q.2.i 20).toInt; rw [a6]; exact Int.le_refl _))
            have kT : TBK s (TH q.2 t 2 16) := (TBK.of o4 (by rw [o8]; exact Int.le_refl _) (fun j _ => by rw [o9])).tr TH.tbk
            refine ⟨((a1.tr f1).tr j1).wk (by omega) (by omega), ((a2 _ _).tr (f2.wk (Int.le_refl _) (by rw [a5]; exact Int.le_refl _))).tr (j2 _ _), (su.tr (j3 _)).tr (CD2.qe rfl), ?_⟩
            obtain ⟨Ψ1, sat1, f4⟩ := f4
            refine ⟨Ψ1, sat1.wd (MNO.of a1 sT) (MNO.of j1 ((j3 0).tr (CD2.qe rfl))), ?_⟩
            intro FC SF nm X c h w0 W g0 ps fc fr ng hc hh ty hW hg zz
            have pS : pcC p.2 = pcC S := by unfold pcC; rw [a4]
            have px : pcC y.2 = pcC x.2 := by unfold pcC; rw [j4]
            have pu : ∀ v : Int32, pcR (RS.setI z.2 63 v) = pcR u := fun v => by
              unfold pcR
              rw [show (RS.setI z.2 63 v).i 20 = z.2.i 20 from rfl, j6]
            rw [px, pu] at zz
            have z1 := f4 FC SF nm X c h w0 W g0 ps (fc.sub a1 j1 (j2 _ _)) (fr.sub sT ((j3 0).tr (CD2.qe rfl)) (((j3 (u.i 20).toInt).tr (CD2.qe rfl)).c3 (Int.le_refl _))) (ng.mv hv.2.1.1 a1 sT kT.1.1.2.2.2.1 (fun j hj => (kT.1.2.1 j hj).2.1) (show (s.i 19).toInt ≤ (q.2.i 19).toInt by rw [o12]; omega)) hc (show ((2 * h + 0 + msr c : Nat) : Int) ≤ (q.2.i 11).toInt by omega) ty hW hg zz
            rw [pS, show pcR (TH q.2 t 2 16) = pcR s by unfold pcR; rw [show (TH q.2 t 2 16).i 20 = q.2.i 20 from rfl, a6]] at z1
            rw [px]
            exact z1
  rw [if_neg c40] at e
  have k40 : ¬ s.i 10 = 40 := fun q => c40 (i40.mpr q)
  by_cases c45 : S.i 43 = 45
  · have k45 := i45.mp c45
    rw [if_pos c45] at e
    rw [if_pos k45, n6 45 (by decide) k45, ob_some, if_neg n10, if_neg k1, if_neg k2, if_pos k45] at hV
    obtain ⟨p29, e1, e⟩ := hf_bind e
    cases e
    unfold f_X1_negated f_X1_negated_17 at e1
    obtain ⟨p, ep, e1⟩ := hf_bind e1
    obtain ⟨q7, hq7, hV⟩ := hf_bind hV
    have eo := e_open (N := N) h15 k45 (by decide)
    rw [hq7, ob_some] at eo
    have neg : ∀ (T : CS) (W : Unit × CS), ((f_X0_add N (CS.setI T 34 (T.i 34 - 1)) 4 0).bind fun p6 => some ((), p6.2)) = some W → W.2.i 32 = T.i 32 := fun T W hW => by
      obtain ⟨x, ex, hW⟩ := hf_bind hW
      cases hW
      exact (show x.2.i 32 = (CS.setI T 34 (T.i 34 - 1)).i 32 from fst_add ex)
    by_cases c0 : q7.1 = 0
    · rw [if_pos c0] at hV eo
      cases hV
      unfold f_X12_open_38 at eo
      have f7 : ¬ q7.2.i 15 = 0 := fun z => by
        rw [if_pos z] at eo
        rcases y_open hN hv (c := 45) (d := 45) (Or.inl ⟨by decide, by decide⟩) (by decide) (by decide) (by decide) ep eo with ⟨o1, -, -⟩ | ⟨-, -, o3, -, -, o6, -, -, -, -, -, -⟩
        · exact (n10 o1).elim
        · have hq8 := krq_f_X12_opens N s q7 hq7
          unfold f_X12_opens f_X12_opens_29 at hq7
          by_cases cx : s.i 19 + 1 ≤ 20
          · rw [if_pos cx, if_pos (show (RS.setI s 19 (s.i 19 + 1)).i 15 = 0 from h15)] at hq7
            cases hq7
            exact (n10 c0).elim
          · rw [if_neg cx, e_fail, ob_some, if_pos (show (RS.setI s 19 (s.i 19 + 1)).i 15 = 0 from h15)] at hq7
            rw [if_neg (show ¬ (((RS.setI s 19 (s.i 19 + 1)).setI 15 6).setI 16 (s.i 11)).i 15 = 0 by show ¬ (6 : Int32) = 0; decide)] at hq7
            cases hq7
            exact absurd (show (6 : Int32) = 0 from z) (by decide)
      rw [if_neg f7] at eo
      rcases y_open hN hv (c := 45) (d := 45) (Or.inl ⟨by decide, by decide⟩) (by decide) (by decide) (by decide) ep eo with ⟨-, o2, o3⟩ | ⟨o1, -⟩
      · refine Or.inl ⟨?_, u_flt g2 o3⟩
        rw [if_neg o2] at e1
        rw [neg p.2 p29 e1]
        exact o2
      · exact absurd (show (0 : Int32) = 1 from o1) (by decide)
    · rw [if_neg c0] at hV eo
      obtain ⟨v, hv2, hV⟩ := hf_bind hV
      rw [ob_id] at hV
      rw [hv2, ob_some] at eo
      unfold f_X12_open_38 at eo
      by_cases cv : v.i 15 = 0
      · rw [if_pos cv] at eo
        rcases y_open hN hv (c := 45) (d := 45) (Or.inl ⟨by decide, by decide⟩) (by decide) (by decide) (by decide) ep eo with ⟨o1, -, -⟩ | ⟨-, o2, o3, o4, o5, o6, o7, o8, o9, o10, o11, o12⟩
        · exact (n10 o1).elim
        · rw [if_pos o3.1.1] at e1
          obtain ⟨x, ex, e1⟩ := hf_bind e1
          obtain ⟨y, ey, e1⟩ := hf_bind e1
          cases e1
          have tq : tpI v = t := by
            have r1 : v.i 63 = s.i 63 := congrArg (fun v : QJT => v.1.2.2.2.2.2.2.2.2.2.2.2.2.2.2.2.2.1) o4
            show (v.i 63).toInt = (t : Int)
            rw [r1]
            exact ht
          obtain ⟨hV', t99⟩ := r_then tq hV
          rw [hV'] at g2
          have t17 : (v.i 17).toInt = (s.i 17).toInt + 1 := by
            have : v.i 17 = s.i 17 + 1 := o6
            rw [this]
            exact t17_up (N := N) hv
          have o7' : (s.i 11).toInt + 1 ≤ (v.i 11).toInt := o7
          have o8' : v.i 20 = s.i 20 := o8
          have o12' : (v.i 19).toInt = (s.i 19).toInt + 1 := o12
          have pq : phI v = phI s + 3 := by
            unfold phI
            rw [o8', t17]
            omega
          rcases hE d p.2 (TH v t 1 18) U m (t + 1) x o3.th (TH.tp tq (by omega)) TH.fk TH.fs (show 3 ≤ phI v by omega) ex g2 with ⟨x1, x2⟩ | ⟨m2, u, g3, xo, xc⟩
          · refine Or.inl ⟨?_, x2⟩
            rw [fst_add ey]
            exact x1
          · obtain ⟨w1, w2, w3, w4, w5, w6, w7, w8, w9⟩ := xo
            have u64 : u.a 64 t = 18 := by
              rw [(w3 t (by omega)).1, TH.fk0 (Nat.le_refl t), ((FRB.of (t := t + 1) o4) t (by omega)).1]
              exact hk
            have u65 : u.a 65 t = 1 := by
              rw [(w3 t (by omega)).2.1]
              exact TH.st
            have tu : tpI u = t := by
              rw [w2]
              omega
            have w6' : (v.i 11).toInt + 1 ≤ (u.i 11).toInt := w6
            have w7' : phI v + 1 ≤ phI u := w7
            have w8' : (v.i 17).toInt + 1 ≤ (u.i 17).toInt := w8
            have w9' : u.i 19 = v.i 19 := w9
            obtain ⟨m3, V3, hV3, g4⟩ := rl_18 g3 tu w1.1.2.1 u64
            unfold f_X12_factor at hV3
            obtain ⟨-, hV3⟩ := hf_ite hV3
            rw [tp_nat tu, if_pos u65] at hV3
            obtain ⟨z, hz, hV3⟩ := hf_bind hV3
            cases hV3
            have e1' : (1 : Int32).toInt = 1 := by decide
            have ho := hv.2.2.1
            have ho2 := w1.2.2.1
            have u19 : (u.i 19).toInt = (s.i 19).toInt + 1 := by rw [w9', o12']
            have u191 : (u.i 19 - 1).toInt = (s.i 19).toInt := by rw [toInt_sub] <;> rw [e1'] <;> omega
            have ws : ENV d (CS.setI x.2 34 (x.2.i 34 - 1)) (RS.setI u 19 (u.i 19 - 1)) := w1.sg (by rw [ho2.1]) (by omega) (by omega) (by
              have := sg_room hv w1 ((CKX.of o5 o10 o11).tr w5) (by omega)
              unfold sgI at this
              rw [ho2.1] at this ⊢
              omega)
            obtain ⟨b1, b2, b3, b4, -, -⟩ := em_env ws (show 1 ≤ phI u by omega) hz
            obtain ⟨kq, y10, y11, -, -, -, -, y17, y19, -⟩ := qj2_eq b3
            have kd := kd_X0_add N _ 4 0 y ey
            obtain ⟨kp, -, -, -, e22, -, -, e43, -, -, -, e18⟩ := pj2_eq kd
            have tz : tpI z.2 = t := by
              have r1 : z.2.i 63 = u.i 63 := congrArg (fun v : QJT => v.1.2.2.2.2.2.2.2.2.2.2.2.2.2.2.2.2.1) kq
              show (z.2.i 63).toInt = (t : Int)
              rw [r1]
              exact tu
            have b4' : phI z.2 = phI u - 1 := b4
            have kqu : qj z.2 = qj u := kq
            have tbz : TBK u z.2 := b2
            have kpx : pj y.2 = pj x.2 := kp
            refine Or.inr ⟨m3, _, g4, ⟨pop_env (b1.kd kd), tp_sub tz t9, ((((FRB.of o4).tr TH.frb).tr (w3.mo (by omega))).tr (FRB.of kqu)).tr pop_frb, ((((TBK.of o4 (by rw [o8]; exact Int.le_refl _) (fun j _ => by rw [o9])).tr TH.tbk).tr w4).tr tbz).tr pop_tbk, ((CKX.of o5 o10 o11).tr w5).tr (CKX.of kpx e22 e18), ?_, ?_, ?_, ?_⟩, fun cr => ?_⟩
            · show (s.i 11).toInt + 1 ≤ (z.2.i 11).toInt
              have : z.2.i 11 = u.i 11 := y11
              rw [this]
              omega
            · show phI s + 1 ≤ phI z.2
              omega
            · show (s.i 17).toInt + 1 ≤ (z.2.i 17).toInt
              have : z.2.i 17 = u.i 17 := y17
              rw [this]
              omega
            · refine o19 ?_
              have : z.2.i 19 = u.i 19 - 1 := y19
              show (z.2.i 19).toInt = (s.i 19).toInt
              rw [this, u191]
            · obtain ⟨a1, a2, a3, a4, a5, a6⟩ := tok_cd hv o3 o5 (ke_X1_open N S 45 p ep) ((kre_f_X12_next N q7.2 v hv2).trans (kre_f_X12_opens N s q7 hq7)) o7
              have crp : CRB p.2 := cr.of a1 (by omega) (by omega)
              obtain ⟨f1, f2, f3, f4⟩ := xc crp
              have crx : CRB x.2 := crp.of f1 (by omega) (by omega)
              have x44 := w1.p44
              have x44' : (x.2.i 44).toInt = (u.i 11).toInt := by rw [x44.1]
              obtain ⟨d1', d2', ⟨d3', d3''⟩, d4', d5', d6'⟩ := cd_add ey (show 0 ≤ (x.2.i 20).toInt from crx.1.1) (show (x.2.i 20).toInt < 1200 by have := crx.1.2; omega)
              have d1 : CD1 1 0 x.2 y.2 := d1'
              have d2 : (y.2.i 20).toInt = (x.2.i 20).toInt + 1 := d2'
              have d3 : y.2.a 15 (pcC x.2) = 4 := d3'
              have d4 : y.2.a 17 = x.2.a 17 := d4'
              have p20 := w1.p20
              obtain ⟨m1', -, m3', m4', -, -⟩ := cd_emit hz (show 0 ≤ (u.i 20).toInt from p20.1) (show (u.i 20).toInt < 3000 by omega)
              have m1 : CD2 (u.i 20).toInt u z.2 := m1'
              have m3e : (z.2.i 20).toInt = (u.i 20).toInt + 1 := m3'
              have m4 : z.2.a 21 (pcR u) = 7 := m4'
              have sT : CD2 (s.i 20).toInt s (TH v t 1 18) := (a3 _).tr (CD2.qe rfl)
              have su : CD2 (s.i 20).toInt s u := sT.tr (f3.wk (by show _ ≤ (v.i 20).toInt; rw [a6]; exact Int.le_refl _))
              have kT : TBK s (TH v t 1 18) := (TBK.of o4 (by rw [o8]; exact Int.le_refl _) (fun j _ => by rw [o9])).tr TH.tbk
              have mz : CD2 (u.i 20).toInt u (RS.setI z.2 63 (z.2.i 63 - 1)) := m1.tr (CD2.qe rfl)
              refine ⟨((a1.tr f1).tr d1).wk (by omega) (by omega), ((a2 _ _).tr (f2.wk (Int.le_refl _) (by rw [a5]; exact Int.le_refl _))).tr (CT7.eq d4), su.tr (mz.wk su.1.1), ?_⟩
              obtain ⟨Ψ1, sat1, f4⟩ := f4
              refine ⟨Ψ1, sat1.wd (MNO.of a1 sT) (MNO.of d1 mz), ?_⟩
              intro FC SF nm X c h w0 W g0 ps fc fr ng hc hh ty hW hg zz
              have pS : pcC p.2 = pcC S := by unfold pcC; rw [a4]
              have pSi : ((pcC S : Nat) : Int) = (S.i 20).toInt := Int.toNat_of_nonneg cr.1.1
              have pxi : ((pcC x.2 : Nat) : Int) = (x.2.i 20).toInt := Int.toNat_of_nonneg crx.1.1
              have pui : ((pcR u : Nat) : Int) = (u.i 20).toInt := Int.toNat_of_nonneg p20.1
              have lpx := f1.1.1
              rw [a4] at lpx
              have py : pcC y.2 = pcC x.2 + 1 := by
                unfold pcC
                rw [d2]
                have := crx.1.1
                omega
              have pz : ∀ k : Int32, pcR (RS.setI z.2 63 k) = pcR u + 1 := fun k => by
                unfold pcR
                rw [show (RS.setI z.2 63 k).i 20 = z.2.i 20 from rfl, m3e]
                have := p20.1
                omega
              rw [py, pz] at zz
              have f15 := fc.2.1 (pcC x.2) (by omega) (by show _ < (y.2.i 20).toInt; omega)
              have lsu := su.1.1
              have u21 := fr.2.1 (pcR u) (by omega) (by show _ < (z.2.i 20).toInt; omega)
              have fr1 : (z.2.i 20).toInt ≤ (U.i 20).toInt := fr.1.2.1
              have z0 := gs_neg (g := 0) ⟨by have := crx.1.2; omega, by omega, fr.1.2.2⟩ hc (by rw [f15.1]; exact d3) (by rw [u21.1]; exact m4) zz
              have z1 := f4 FC SF nm X c h (w0 + 1) W g0 ps (fc.sub a1 d1 (CT7.eq d4)) (fr.sub sT mz (mz.c3 (Int.le_refl _))) (ng.mv hv.2.1.1 a1 sT kT.1.1.2.2.2.1 (fun j hj => (kT.1.2.1 j hj).2.1) (show (s.i 19).toInt ≤ (v.i 19).toInt by rw [o12']; omega)) hc (show ((2 * h + 0 + msr c : Nat) : Int) ≤ (v.i 11).toInt by omega) ty (by omega) hg z0
              rw [pS, show pcR (TH v t 1 18) = pcR s by unfold pcR; rw [show (TH v t 1 18).i 20 = v.i 20 from rfl, a6]] at z1
              rw [py, show w0 + (pcC x.2 + 1 - pcC S) = w0 + 1 + (pcC x.2 - pcC S) by omega]
              exact z1
      · rw [if_neg cv] at eo
        rcases y_open hN hv (c := 45) (d := 45) (Or.inl ⟨by decide, by decide⟩) (by decide) (by decide) (by decide) ep eo with ⟨-, o2, o3⟩ | ⟨o1, -⟩
        · refine Or.inl ⟨?_, u_flt g2 (krf_f_X12_then N v 1 18 V hV o3)⟩
          rw [if_neg o2] at e1
          rw [neg p.2 p29 e1]
          exact o2
        · exact absurd (show (0 : Int32) = 1 from o1) (by decide)
  rw [if_neg c45] at e
  have k45 : ¬ s.i 10 = 45 := fun q => c45 (i45.mpr q)
  rw [if_neg k45, if_neg k40] at hV
  by_cases csw : S.i 43 = 218
  · have ksw := isw.mp csw
    rw [if_pos csw] at e
    rw [if_pos ksw, n6 428 (by decide) ksw, ob_some, if_neg n10, if_neg k1, if_neg k2, if_neg k45, if_neg k40, if_pos hib] at hV
    obtain ⟨p, ep, e⟩ := hf_bind e
    cases e
    cases hV
    have g2 : f_X12_parse_10 N m (RS.setA s 64 t 19) = some U := g2
    have a64 : (RS.setA s 64 t 19).a 64 t = 19 := by
      show upd (s.a 64) t 19 t = 19
      exact if_pos rfl
    rcases hA d S (RS.setA s 64 t 19) U m t p (setA_env (Or.inr (by omega)) hv) ht a64 hs h3 csw ep g2 with z | ⟨m2, u, g3, xo, xc⟩
    · exact Or.inl z
    · obtain ⟨w1, w2, w3, w4, w5, w6, w7, w8, w9⟩ := xo
      have tb : TBK s (RS.setA s 64 t 19) := ⟨setA_tb0 (Or.inr (by omega)), Int.le_refl _, fun _ _ => rfl⟩
      exact Or.inr ⟨m2, u, g3, ⟨w1, w2, (setA_frb (Or.inr ⟨by omega, by omega, Nat.le_refl _⟩)).tr w3, tb.tr w4, w5, w6, w7, w8, w9⟩, fun cr => xc cr⟩
  · rw [if_neg csw] at e
    rw [if_neg (fun q => csw (isw.mpr q))] at hV
    obtain ⟨p, ep, e⟩ := hf_bind e
    cases e
    obtain ⟨q, hq, hV⟩ := hf_bind hV
    obtain ⟨q1, q2⟩ := y_can0 hq
    rw [if_pos q1] at hV
    cases hV
    exact Or.inl ⟨y_misp ep, u_flt g2 q2⟩
end
section
/-! both readers: one condition -/
/-- the frame's number on the stack of frames -/
theorem tq_of {s u : RS} {t : Nat} (h : qj u = qj s) (ht : tpI s = t) : tpI u = t := by
  have r1 : u.i 63 = s.i 63 := congrArg (fun v : QJT => v.1.2.2.2.2.2.2.2.2.2.2.2.2.2.2.2.2.1) h
  show (u.i 63).toInt = (t : Int)
  rw [r1]
  exact ht
def cmpC (c : Int32) : Prop := c = 60 ∨ c = 62 ∨ c = 128 ∨ c = 129 ∨ c = 130 ∨ c = 131
def CMO (c o : Int32) : Prop := (c = 60 ∧ o = 12) ∨ (c = 62 ∧ o = 14) ∨ (c = 128 ∧ o = 13) ∨ (c = 129 ∧ o = 15) ∨ (c = 130 ∧ o = 16) ∨ (c = 131 ∧ o = 17)
theorem cmo_tk {d : Int32} {S : CS} {s : RS} {o : Int32} (h : ENV d S s) (q : CMO (S.i 43) o) : COP o (s.i 10) := by
  rcases q with ⟨a, b⟩ | ⟨a, b⟩ | ⟨a, b⟩ | ⟨a, b⟩ | ⟨a, b⟩ | ⟨a, b⟩
  · exact Or.inl ⟨b, (tk_is h (a := 60) (b := 60) (Or.inl ⟨by decide, by decide⟩) (by decide)).mp a⟩
  · exact Or.inr (Or.inr (Or.inl ⟨b, (tk_is h (a := 62) (b := 62) (Or.inl ⟨by decide, by decide⟩) (by decide)).mp a⟩))
  · exact Or.inr (Or.inl ⟨b, (tk_is h (a := 128) (b := 300) (Or.inl ⟨by decide, by decide⟩) (by decide)).mp a⟩)
  · exact Or.inr (Or.inr (Or.inr (Or.inl ⟨b, (tk_is h (a := 129) (b := 301) (Or.inl ⟨by decide, by decide⟩) (by decide)).mp a⟩)))
  · exact Or.inr (Or.inr (Or.inr (Or.inr (Or.inl ⟨b, (tk_is h (a := 130) (b := 302) (Or.inl ⟨by decide, by decide⟩) (by decide)).mp a⟩))))
  · exact Or.inr (Or.inr (Or.inr (Or.inr (Or.inr ⟨b, (tk_is h (a := 131) (b := 303) (Or.inl ⟨by decide, by decide⟩) (by decide)).mp a⟩))))
theorem e_cmp1 {N : Nat} {S : CS} {c : Int32} (h : cmpC c) : ∃ o : Int32, 0 ≤ o ∧ f_X1_comparing N S c = some (o, S) ∧ CMO c o := by
  unfold f_X1_comparing
  rcases h with rfl | rfl | rfl | rfl | rfl | rfl
  · exact ⟨12, by decide, if_pos rfl, Or.inl ⟨rfl, rfl⟩⟩
  · exact ⟨14, by decide, (if_neg (by decide)).trans (if_pos rfl), Or.inr (Or.inl ⟨rfl, rfl⟩)⟩
  · exact ⟨13, by decide, (if_neg (by decide)).trans ((if_neg (by decide)).trans (if_pos rfl)), Or.inr (Or.inr (Or.inl ⟨rfl, rfl⟩))⟩
  · exact ⟨15, by decide, (if_neg (by decide)).trans ((if_neg (by decide)).trans ((if_neg (by decide)).trans (if_pos rfl))), Or.inr (Or.inr (Or.inr (Or.inl ⟨rfl, rfl⟩)))⟩
  · exact ⟨16, by decide, (if_neg (by decide)).trans ((if_neg (by decide)).trans ((if_neg (by decide)).trans ((if_neg (by decide)).trans (if_pos rfl)))), Or.inr (Or.inr (Or.inr (Or.inr (Or.inl ⟨rfl, rfl⟩))))⟩
  · exact ⟨17, by decide, (if_neg (by decide)).trans ((if_neg (by decide)).trans ((if_neg (by decide)).trans ((if_neg (by decide)).trans ((if_neg (by decide)).trans (if_pos rfl))))), Or.inr (Or.inr (Or.inr (Or.inr (Or.inr ⟨rfl, rfl⟩))))⟩
theorem e_cmp0 {N : Nat} {S : CS} {c : Int32} (h : ¬ cmpC c) : f_X1_comparing N S c = some (-1, S) := by
  unfold f_X1_comparing
  rw [if_neg (fun q => h (Or.inl q)), if_neg (fun q => h (Or.inr (Or.inl q))), if_neg (fun q => h (Or.inr (Or.inr (Or.inl q)))), if_neg (fun q => h (Or.inr (Or.inr (Or.inr (Or.inl q))))), if_neg (fun q => h (Or.inr (Or.inr (Or.inr (Or.inr (Or.inl q)))))), if_neg (fun q => h (Or.inr (Or.inr (Or.inr (Or.inr (Or.inr q))))))]
/-- the reference, behind the left side -/
theorem e_onec {N : Nat} {s V : RS} {t : Nat} (ht : tpI s = t) (h15 : s.i 15 = 0) (h3 : s.a 65 t = 3) (h : f_X12_one N s (s.i 63) = some V) : ((s.i 10 = 60 ∨ s.i 10 = 62 ∨ s.i 10 = 300 ∨ s.i 10 = 301 ∨ s.i 10 = 302 ∨ s.i 10 = 303) ∧ f_X12_one_281 N s (s.i 63) = some V) ∨ (¬ (s.i 10 = 60 ∨ s.i 10 = 62 ∨ s.i 10 = 300 ∨ s.i 10 = 301 ∨ s.i 10 = 302 ∨ s.i 10 = 303) ∧ ¬ V.i 15 = 0) := by
  unfold f_X12_one at h
  obtain ⟨-, h⟩ := hf_ite h
  rw [tp_nat ht, if_neg (by rw [h3]; decide), if_neg (by rw [h3]; decide), if_neg (by rw [h3]; decide), if_pos h3] at h
  have yes : ∀ v : Int32, ¬ v = 6 → s.i 10 = v → ((f_X12_can N s 1).bind fun p35 => (if p35.1 = 0 then some p35.2 else f_X12_one_281 N p35.2 (s.i 63))) = some V → f_X12_one_281 N s (s.i 63) = some V := fun v h6 hv hh => by
    rw [y_can1 h15 (by rw [hv]; exact h6), ob_some, if_neg n10] at hh
    exact hh
  by_cases c60 : s.i 10 = 60
  · rw [if_pos c60] at h
    exact Or.inl ⟨Or.inl c60, yes 60 (by decide) c60 h⟩
  rw [if_neg c60] at h
  by_cases c300 : s.i 10 = 300
  · rw [if_pos c300] at h
    exact Or.inl ⟨Or.inr (Or.inr (Or.inl c300)), yes 300 (by decide) c300 h⟩
  rw [if_neg c300] at h
  by_cases c62 : s.i 10 = 62
  · rw [if_pos c62] at h
    exact Or.inl ⟨Or.inr (Or.inl c62), yes 62 (by decide) c62 h⟩
  rw [if_neg c62] at h
  by_cases c301 : s.i 10 = 301
  · rw [if_pos c301] at h
    exact Or.inl ⟨Or.inr (Or.inr (Or.inr (Or.inl c301))), yes 301 (by decide) c301 h⟩
  rw [if_neg c301] at h
  by_cases c302 : s.i 10 = 302
  · rw [if_pos c302] at h
    exact Or.inl ⟨Or.inr (Or.inr (Or.inr (Or.inr (Or.inl c302)))), yes 302 (by decide) c302 h⟩
  rw [if_neg c302] at h
  by_cases c303 : s.i 10 = 303
  · rw [if_pos c303] at h
    exact Or.inl ⟨Or.inr (Or.inr (Or.inr (Or.inr (Or.inr c303)))), yes 303 (by decide) c303 h⟩
  rw [if_neg c303] at h
  obtain ⟨q, hq, h⟩ := hf_bind h
  obtain ⟨q1, q2⟩ := y_can0 hq
  rw [if_pos q1] at h
  cases h
  refine Or.inr ⟨fun z => ?_, q2⟩
  rcases z with z | z | z | z | z | z
  · exact c60 z
  · exact c62 z
  · exact c300 z
  · exact c301 z
  · exact c302 z
  · exact c303 z
set_option maxHeartbeats 4000000 in
/-- two sides and a sign between them -/
theorem sx_comparison {N : Nat} (hN : 1000 ≤ N) {E1 : CS → Option (Unit × CS)} {E2 : CS → Option (Int32 × CS)} (hm1 : ∀ σ, Kf (CS.i σ 32) (E1 σ)) (hm2 : ∀ σ, Kf (CS.i σ 32) (E2 σ)) (hE : SXR N 18 E1) {d : Int32} {S : CS} {s U : RS} {n t : Nat} {R : Unit × CS} (hv : ENV d S s) (ht : tpI s = t) (hk : s.a 64 t = 22) (h3 : 3 ≤ phI s) (t99 : t + 1 < 1000) (e : f_X1_comparison N E1 E2 S = some R) (g : f_X12_parse_10 N n (TH s t 3 16) = some U) : (¬ R.2.i 32 = 0 ∧ ¬ U.i 15 = 0) ∨ ∃ (m : Nat) (u : RS), f_X12_parse_10 N m u = some U ∧ XO d t S s R.2 u ∧ CDE 2 U S s R.2 u := by
  have hX := sx_expression hN hm1 hm2 hE
  unfold f_X1_comparison at e
  obtain ⟨p1, e1, e⟩ := hf_bind e
  have perX : ∀ (T : CS) (W : Unit × CS), f_X1_expression N E1 E2 T = some W → ¬ T.i 32 = 0 → ¬ W.2.i 32 = 0 := fun T W hW z => by rw [kF_X1_expression N E1 E2 hm1 hm2 T W hW z]; exact z
  -- a fault stays
  have per : ¬ p1.2.i 32 = 0 → ¬ R.2.i 32 = 0 := fun z => by
    by_cases c : cmpC (p1.2.i 43)
    · obtain ⟨o, o0, ho, -⟩ := e_cmp1 (N := N) (S := p1.2) c
      rw [ho, ob_some, if_pos o0] at e
      obtain ⟨x, ex, e⟩ := hf_bind e
      obtain ⟨y, ey, e⟩ := hf_bind e
      obtain ⟨w, ew, e⟩ := hf_bind e
      cases e
      rw [fst_add ew]
      refine perX _ _ ey ?_
      rw [kF_X9_advance N p1.2 x ex z]
      exact z
    · rw [e_cmp0 c, ob_some, if_neg (show ¬ (0 : Int32) ≤ -1 by decide)] at e
      obtain ⟨x, ex, e⟩ := hf_bind e
      cases e
      exact y_misp ex
  rcases hX d S (TH s t 3 16) U n (t + 1) p1 hv.th (TH.tp ht (by omega)) TH.fk TH.fs (show 3 ≤ phI s from h3) e1 g with ⟨x1, x2⟩ | ⟨m2, u, g3, xo, xc⟩
  · exact Or.inl ⟨per x1, x2⟩
  obtain ⟨w1, w2, w3, w4, w5, w6, w7, w8, w9⟩ := xo
  have u64 : u.a 64 t = 22 := by
    rw [(w3 t (by omega)).1, TH.fk0 (Nat.le_refl t)]
    exact hk
  have u65 : u.a 65 t = 3 := by
    rw [(w3 t (by omega)).2.1]
    exact TH.st
  have tu : tpI u = t := by
    rw [w2]
    omega
  have w6' : (s.i 11).toInt + 1 ≤ (u.i 11).toInt := w6
  have w7' : phI s + 1 ≤ phI u := w7
  have w8' : (s.i 17).toInt + 1 ≤ (u.i 17).toInt := w8
  have w9' : u.i 19 = s.i 19 := w9
  obtain ⟨m3, V3, hV3, g4⟩ := rl_22 g3 tu w1.1.2.1 u64
  have is : cmpC (p1.2.i 43) ↔ (u.i 10 = 60 ∨ u.i 10 = 62 ∨ u.i 10 = 300 ∨ u.i 10 = 301 ∨ u.i 10 = 302 ∨ u.i 10 = 303) := by
    unfold cmpC
    rw [tk_is w1 (a := 60) (b := 60) (Or.inl ⟨by decide, by decide⟩) (by decide), tk_is w1 (a := 62) (b := 62) (Or.inl ⟨by decide, by decide⟩) (by decide), tk_is w1 (a := 128) (b := 300) (Or.inl ⟨by decide, by decide⟩) (by decide), tk_is w1 (a := 129) (b := 301) (Or.inl ⟨by decide, by decide⟩) (by decide), tk_is w1 (a := 130) (b := 302) (Or.inl ⟨by decide, by decide⟩) (by decide), tk_is w1 (a := 131) (b := 303) (Or.inl ⟨by decide, by decide⟩) (by decide)]
  rcases e_onec tu w1.1.2.1 u65 hV3 with ⟨c, hV4⟩ | ⟨c, f3⟩
  · have c' := is.mpr c
    obtain ⟨o, o0, ho, hco⟩ := e_cmp1 (N := N) (S := p1.2) c'
    rw [ho, ob_some, if_pos o0] at e
    obtain ⟨x, ex, e⟩ := hf_bind e
    obtain ⟨y, ey, e⟩ := hf_bind e
    obtain ⟨w, ew, e⟩ := hf_bind e
    cases e
    unfold f_X12_one_281 at hV4
    obtain ⟨-, hV4⟩ := hf_ite hV4
    obtain ⟨v, hv2, hV4⟩ := hf_bind hV4
    rw [ob_id] at hV4
    rw [tp_nat tu] at hv2
    obtain ⟨s3, hs3⟩ : ∃ z, z = RS.setA u 66 t (u.i 10) := ⟨_, rfl⟩
    rw [← hs3] at hv2
    have v3 : ENV d p1.2 s3 := by rw [hs3]; exact setA_env (Or.inr (by omega)) w1
    have k3 : TBK u s3 := by rw [hs3]; exact ⟨setA_tb0 (Or.inr (by omega)), Int.le_refl _, fun _ _ => rfl⟩
    have f3 : FRB t u s3 := by rw [hs3]; exact setA_frb (Or.inr ⟨by omega, by omega, Nat.le_refl _⟩)
    have j3 : s3.i 17 = u.i 17 ∧ s3.i 11 = u.i 11 ∧ s3.i 20 = u.i 20 ∧ s3.i 19 = u.i 19 ∧ s3.a 64 = u.a 64 := by
      rw [hs3]
      exact ⟨rfl, rfl, rfl, rfl, rfl⟩
    have t3 : tpI s3 = t := by rw [hs3]; exact tu
    have qe3 : qe s3 = qe u := by rw [hs3]; rfl
    have f366 : s3.a 66 t = u.i 10 := by
      rw [hs3]
      exact if_pos rfl
    clear hs3
    have nz : ¬ p1.2.i 43 = 0 := fun z => by
      rw [z] at c'
      exact absurd c' (by unfold cmpC; decide)
    obtain ⟨a1, a2, a3, a4, a5, a6, a7, a8, a9, a10⟩ := v3.adv hN nz ex hv2
    have tv := tq_of a2 t3
    obtain ⟨hV5, -⟩ := r_then tv hV4
    rw [hV5] at g4
    have v17 : (v.i 17).toInt = (u.i 17).toInt + 1 := by
      rw [a4, ← j3.1]
      exact t17_up (N := N) v3
    have pv : phI v = phI u + 3 := by
      unfold phI
      rw [a6, v17, j3.2.2.1]
      omega
    have a5' : (u.i 11).toInt + 1 ≤ (v.i 11).toInt := by rw [j3.2.1] at a5; exact a5
    rcases hX d x.2 (TH v t 4 16) U m3 (t + 1) y a1.th (TH.tp tv (by omega)) TH.fk TH.fs (show 3 ≤ phI v by omega) ey g4 with ⟨x1, x2⟩ | ⟨m4, u4, g5, xo, xc2⟩
    · refine Or.inl ⟨?_, x2⟩
      rw [fst_add ew]
      exact x1
    · obtain ⟨b1, b2, b3, b4, b5, b6, b7, b8, b9⟩ := xo
      have x64 : u4.a 64 t = 22 := by
        rw [(b3 t (by omega)).1, TH.fk0 (Nat.le_refl t), ((FRB.of (t := t + 1) a2) t (by omega)).1, j3.2.2.2.2]
        exact u64
      have x65 : u4.a 65 t = 4 := by
        rw [(b3 t (by omega)).2.1]
        exact TH.st
      have tu4 : tpI u4 = t := by
        rw [b2]
        omega
      have b6' : (v.i 11).toInt + 1 ≤ (u4.i 11).toInt := b6
      have b7' : phI v + 1 ≤ phI u4 := b7
      have b8' : (v.i 17).toInt + 1 ≤ (u4.i 17).toInt := b8
      have b9' : u4.i 19 = v.i 19 := b9
      obtain ⟨m5, V5, hV6, g6⟩ := rl_22 g5 tu4 b1.1.2.1 x64
      unfold f_X12_one at hV6
      obtain ⟨-, hV6⟩ := hf_ite hV6
      rw [tp_nat tu4, if_neg (by rw [x65]; decide), if_neg (by rw [x65]; decide), if_neg (by rw [x65]; decide), if_neg (by rw [x65]; decide)] at hV6
      obtain ⟨z, hz, hV6⟩ := hf_bind hV6
      cases hV6
      obtain ⟨q1, q2, q3, q4, -, -⟩ := em_env b1 (by omega) hz
      obtain ⟨kq, y10, y11, -, -, -, -, y17, y19, -⟩ := qj2_eq q3
      have kd := kd_X0_add N y.2 o 0 w ew
      obtain ⟨kp, -, -, -, e22, -, -, e43, -, -, -, e18⟩ := pj2_eq kd
      refine Or.inr ⟨m5, _, g6, ⟨pop_env (q1.kd kd), tp_sub (tq_of kq tu4) (by omega), (((((TH.frb.tr (w3.mo (by omega))).tr f3).tr (FRB.of a2)).tr TH.frb).tr (b3.mo (by omega))).tr ((FRB.of kq).tr pop_frb), (((((TH.tbk.tr w4).tr k3).tr (TBK.of a2 (by rw [a6]; exact Int.le_refl _) (fun j _ => by rw [a7]))).tr TH.tbk).tr b4).tr (q2.tr pop_tbk), ((w5.tr (CKX.of a3 a8 a9)).tr b5).tr (CKX.of kp e22 e18), ?_, ?_, ?_, ?_⟩, fun cr => ?_⟩
      · show (s.i 11).toInt + 1 ≤ (z.2.i 11).toInt
        rw [y11]
        omega
      · show phI s + 1 ≤ phI z.2
        omega
      · show (s.i 17).toInt + 1 ≤ (z.2.i 17).toInt
        rw [y17]
        omega
      · exact (y19.trans b9').trans ((a10.trans j3.2.2.2.1).trans w9')
      · obtain ⟨f1, f2, f3', f4⟩ := xc cr
        have crp : CRB p1.2 := cr.of f1 (by omega) (by omega)
        obtain ⟨i1, i2, i3, i4, i5, i6, i7⟩ := adv_cd hN v3 nz ex hv2
        have crx : CRB x.2 := crp.of i1 (by omega) (by omega)
        obtain ⟨j1, j2, j3', j4⟩ := xc2 crx
        have cry : CRB y.2 := crx.of j1 (by omega) (by omega)
        have y44 := b1.p44
        have y44' : (y.2.i 44).toInt = (u4.i 11).toInt := by rw [y44.1]
        obtain ⟨d1, d2, ⟨d3, -⟩, d4, d5, d6⟩ := cd_add ew cry.1.1 (by have := cry.1.2; omega)
        have p20 := b1.p20
        obtain ⟨m1, -, m3e, m4e, m5e, -⟩ := cd_emit hz p20.1 (by omega)
        have e20 : (TH v t 4 16).i 20 = u.i 20 := (i6.trans j3.2.2.1 : v.i 20 = u.i 20)
        have sU : CD2 (s.i 20).toInt s u := (CD2.qe rfl).tr f3'
        have uT : ∀ c : Int, CD2 c u (TH v t 4 16) := fun c => ((CD2.qe qe3).tr (i3 c)).tr (CD2.qe rfl)
        have uu4 : CD2 (u.i 20).toInt u u4 := (uT _).tr (j3'.wk (by rw [e20]; exact Int.le_refl _))
        have u4z : CD2 (u4.i 20).toInt u4 (RS.setI z.2 63 (z.2.i 63 - 1)) := m1.tr (CD2.qe rfl)
        have uz := uu4.tr (u4z.wk uu4.1.1)
        have cpw : CD1 0 (-2) p1.2 w.2 := ((i1.tr j1).tr d1).wk (by omega) (by omega)
        have tpw : CT7 0 (p1.2.i 21).toInt p1.2 w.2 := ((i2 _ _).tr (j2.wk (Int.le_refl _) (by rw [i5]; exact Int.le_refl _))).tr (CT7.eq d4)
        have kU : TBK s u := TH.tbk.tr w4
        have kT : TBK s (TH v t 4 16) := ((kU.tr k3).tr (TBK.of a2 (by rw [a6]; exact Int.le_refl _) (fun j _ => by rw [a7]))).tr TH.tbk
        refine ⟨(f1.tr cpw).wk (by omega) (by omega), f2.tr (tpw.wk (Int.le_refl _) f1.2.2.1), sU.tr (uz.wk sU.1.1), ?_⟩
        obtain ⟨Ψ1, sat1, f4⟩ := f4
        obtain ⟨Ψ2, sat2, j4⟩ := j4
        refine ⟨_, (sat1.wd (MNO.of (CD1.rf S) (CD2.qe rfl : CD2 0 s (TH s t 3 16))) (MNO.of i1 (uT 0))).an (sat2.wd (MNO.of (CD1.rf x.2) (CD2.rf 0 (TH v t 4 16))) (MNO.of d1 u4z)) (MNO.of (f1.tr i1) (sU.tr ((uT (u.i 20).toInt).wk sU.1.1))) (MNO.of (j1.tr d1) (j3'.tr (u4z.wk j3'.1.1))), ?_⟩
        intro FC SF nm X c h w0 W g0 ps fc fr ng hc hh ty hW hg zz
        have pSi : ((pcC S : Nat) : Int) = (S.i 20).toInt := Int.toNat_of_nonneg cr.1.1
        have ppi : ((pcC p1.2 : Nat) : Int) = (p1.2.i 20).toInt := Int.toNat_of_nonneg crp.1.1
        have pyi : ((pcC y.2 : Nat) : Int) = (y.2.i 20).toInt := Int.toNat_of_nonneg cry.1.1
        have pui : ((pcR u4 : Nat) : Int) = (u4.i 20).toInt := Int.toNat_of_nonneg p20.1
        have px : pcC x.2 = pcC p1.2 := by unfold pcC; rw [i4]
        have l1 := f1.1.1
        have l2 := j1.1.1
        rw [i4] at l2
        have pw : pcC w.2 = pcC y.2 + 1 := by
          unfold pcC
          rw [d2]
          have := cry.1.1
          omega
        have pz : ∀ k : Int32, pcR (RS.setI z.2 63 k) = pcR u4 + 1 := fun k => by
          unfold pcR
          rw [show (RS.setI z.2 63 k).i 20 = z.2.i 20 from rfl, m3e]
          have := p20.1
          omega
        rw [pw, pz] at zz
        have f15 := fc.2.1 (pcC y.2) (by omega) (by show _ < (w.2.i 20).toInt; omega)
        have l3 := sU.1.1
        have l4 := uu4.1.1
        have u21 := fr.2.1 (pcR u4) (by omega) (by show _ < (z.2.i 20).toInt; omega)
        have fr1 : (z.2.i 20).toInt ≤ (U.i 20).toInt := fr.1.2.1
        have x66 : u4.a 66 t = u.i 10 := by
          rw [(b3 t (by omega)).2.2.1]
          show v.a 66 t = u.i 10
          rw [((FRB.of (t := t + 1) a2) t (by omega)).2.2.1, f366]
        have z0 := gs_rel (g := 0) ⟨by have := cry.1.2; omega, by omega, fr.1.2.2⟩ hc (by rw [f15.1, u21.2.1]; show COP (w.2.a 15 (pcC y.2)) (z.2.a 22 (pcR u4)); rw [d3, m5e, x66]; exact cmo_tk w1 hco) (by rw [u21.1]; exact m4e) zz
        have z1 := j4 FC SF nm X c (h + 1) (w0 + 1) W 0 ps.2 (fc.sub (f1.tr i1) d1 (CT7.eq d4)) (fr.sub (sU.tr ((uT (u.i 20).toInt).wk l3)) u4z (u4z.c3 (Int.le_refl _))) (ng.mv hv.2.1.1 (f1.tr i1) (sU.tr ((uT (u.i 20).toInt).wk l3)) kT.1.1.2.2.2.1 (fun j hj => (kT.1.2.1 j hj).2.1) (show (s.i 19).toInt ≤ (v.i 19).toInt by rw [(a10.trans j3.2.2.2.1).trans w9']; exact Int.le_refl _)) (hc.up (by omega)) (show ((2 * (h + 1) + 0 + msr c : Nat) : Int) ≤ (v.i 11).toInt by omega) ty (by omega) True.intro z0
        rw [px, show pcR (TH v t 4 16) = pcR u by unfold pcR; rw [e20]] at z1
        have z2 := f4 FC SF nm X c h (w0 + 1 + (pcC y.2 - pcC p1.2)) W g0 ps.1 (fc.sub (CD1.rf S) cpw (tpw.wk cr.2.1 (Int.le_refl _))) (fr.sub (CD2.qe rfl : CD2 0 s (TH s t 3 16)) uz (uz.c3 (Int.le_refl _))) (ng.mv hv.2.1.1 (CD1.rf S) (CD2.qe rfl : CD2 0 s (TH s t 3 16)) rfl (fun _ _ => rfl) (Int.le_refl _)) hc hh ty (by omega) True.intro z1
        rw [pw, show w0 + (pcC y.2 + 1 - pcC S) = w0 + 1 + (pcC y.2 - pcC p1.2) + (pcC p1.2 - pcC S) by omega]
        exact z2
  · have c' : ¬ cmpC (p1.2.i 43) := fun z => c (is.mp z)
    rw [e_cmp0 c', ob_some, if_neg (show ¬ (0 : Int32) ≤ -1 by decide)] at e
    obtain ⟨x, ex, e⟩ := hf_bind e
    cases e
    exact Or.inl ⟨y_misp ex, u_flt g4 f3⟩
end
section
/-! both readers: one condition, whole -/
/-- what opens says of its answer -/
theorem opens_0 {N : Nat} {s : RS} {q : Int32 × RS} (h15 : s.i 15 = 0) (h : f_X12_opens N s = some q) : (q.1 = 0 ∧ ¬ q.2.i 15 = 0) ∨ (q.1 = 1 ∧ q.2.i 15 = 0) := by
  unfold f_X12_opens f_X12_opens_29 at h
  by_cases cx : s.i 19 + 1 ≤ 20
  · rw [if_pos cx, if_pos (show (RS.setI s 19 (s.i 19 + 1)).i 15 = 0 from h15)] at h
    cases h
    exact Or.inr ⟨rfl, h15⟩
  · have n6 : ¬ (((RS.setI s 19 (s.i 19 + 1)).setI 15 6).setI 16 (s.i 11)).i 15 = 0 := by
      show ¬ (6 : Int32) = 0
      decide
    rw [if_neg cx, e_fail, ob_some, if_pos (show (RS.setI s 19 (s.i 19 + 1)).i 15 = 0 from h15), if_neg n6] at h
    cases h
    exact Or.inl ⟨rfl, n6⟩
/-- a sign that opens one more, without a sign that closes -/
theorem y_opens {N : Nat} (hN : 1000 ≤ N) {dl : Int32} {S : CS} {s : RS} {p : Unit × CS} {V : RS} {c d st K : Int32} (h : ENV dl S s) (hc : tyR c) (hd : tm c = d) (h6 : ¬ d = 6) (h0 : ¬ c = 0) (h10 : s.i 10 = d) (ep : f_X1_open N S c = some p) (hV : ((f_X12_opens N s).bind fun p17 => (if p17.1 = 0 then some p17.2 else (f_X12_next N p17.2).bind fun p20 => (f_X12_then N p20 st K).bind fun p22 => some p22)) = some V) : (¬ p.2.i 32 = 0 ∧ ¬ V.i 15 = 0) ∨ ∃ v : RS, f_X12_then N v st K = some V ∧ ENV dl p.2 v ∧ qj v = qj s ∧ pj p.2 = pj S ∧ v.i 17 = s.i 17 + 1 ∧ (s.i 11).toInt + 1 ≤ (v.i 11).toInt ∧ v.i 20 = s.i 20 ∧ v.a 22 = s.a 22 ∧ p.2.i 22 = S.i 22 ∧ A18 S p.2 ∧ (v.i 19).toInt = (s.i 19).toInt + 1 ∧ qe v = qe s := by
  have h15 := h.1.2.1
  have eo := e_open (N := N) h15 h10 h6
  obtain ⟨q7, hq7, hV⟩ := hf_bind hV
  rw [hq7, ob_some] at eo
  unfold f_X12_open_38 at eo
  rcases opens_0 h15 hq7 with ⟨c0, f7⟩ | ⟨c0, f7⟩
  · rw [if_pos c0, if_neg f7] at eo
    rw [if_pos c0] at hV
    cases hV
    rcases y_open hN h hc hd h6 h0 ep eo with ⟨-, o2, o3⟩ | ⟨o1, -⟩
    · exact Or.inl ⟨o2, o3⟩
    · exact absurd (show (0 : Int32) = 1 from o1) (by decide)
  · rw [if_neg (by rw [c0]; decide)] at hV eo
    obtain ⟨v, hv2, hV⟩ := hf_bind hV
    rw [ob_id] at hV
    rw [hv2, ob_some] at eo
    by_cases cv : v.i 15 = 0
    · rw [if_pos cv] at eo
      rcases y_open hN h hc hd h6 h0 ep eo with ⟨o1, -, -⟩ | ⟨-, o2, o3, o4, o5, o6, o7, o8, o9, o10, o11, o12⟩
      · exact (n10 o1).elim
      · exact Or.inr ⟨v, hV, o3, o4, o5, o6, o7, o8, o9, o10, o11, o12, (kre_f_X12_next N q7.2 v hv2).trans (kre_f_X12_opens N s q7 hq7)⟩
    · rw [if_neg cv] at eo
      rcases y_open hN h hc hd h6 h0 ep eo with ⟨-, o2, o3⟩ | ⟨o1, -⟩
      · exact Or.inl ⟨o2, krf_f_X12_then N v st K V hV o3⟩
      · exact absurd (show (0 : Int32) = 1 from o1) (by decide)
set_option maxHeartbeats 4000000 in
theorem sx_one {N : Nat} (hN : 1000 ≤ N) {E1 : CS → Option (Unit × CS)} {E2 : CS → Option (Int32 × CS)} (hm1 : ∀ σ, Kf (CS.i σ 32) (E1 σ)) (hm2 : ∀ σ, Kf (CS.i σ 32) (E2 σ)) (hE : SXR N 18 E1) (hE2 : SXN N 22 E2) : SXN N 22 (f_X1_one N E1 E2) := by
  intro d S s U n t R hv ht hk hs h3 e g
  have h15 := hv.1.2.1
  have en := tp_nat ht
  obtain ⟨m, V, hV, g2⟩ := rl_22 g ht h15 hk
  have t9 : t < 1000 := by
    have := (rl_0 g ht h15).2.1.2
    have h2 : (s.i 63).toInt = (t : Int) := ht
    omega
  have i33 := tk_is hv (a := 33) (b := 33) (Or.inl ⟨by decide, by decide⟩) (by decide)
  have i91 := tk_is hv (a := 91) (b := 91) (Or.inl ⟨by decide, by decide⟩) (by decide)
  have itr := tk_is hv (a := 222) (b := 432) (Or.inr ⟨by decide, by decide⟩) (by decide)
  have ifa := tk_is hv (a := 223) (b := 433) (Or.inr ⟨by decide, by decide⟩) (by decide)
  unfold f_X12_one f_X12_one_112 f_X12_one_133 at hV
  obtain ⟨hib, hV⟩ := hf_ite hV
  rw [en, if_pos hs] at hV
  unfold f_X1_one at e
  by_cases c33 : S.i 43 = 33
  · have k33 := i33.mp c33
    have no : ¬ s.i 10 = 432 := by rw [k33]; decide
    rw [if_pos c33] at e
    rw [if_pos k33] at hV
    obtain ⟨p, ep, e⟩ := hf_bind e
    unfold f_X1_one_66 at e
    have neg : ∀ (T : CS) (W : Int32 × CS), ((f_X0_add N (CS.setI T 34 (T.i 34 - 1)) 5 0).bind fun p7 => some ((0 : Int32), p7.2)) = some W → W.2.i 32 = T.i 32 := fun T W hW => by
      obtain ⟨x, ex, hW⟩ := hf_bind hW
      cases hW
      exact (show x.2.i 32 = (CS.setI T 34 (T.i 34 - 1)).i 32 from fst_add ex)
    rcases y_opens hN hv (c := 33) (d := 33) (Or.inl ⟨by decide, by decide⟩) (by decide) (by decide) (by decide) k33 ep hV with ⟨o2, o3⟩ | ⟨v, hV, o3, o4, o5, o6, o7, o8, o9, o10, o11, o12, o13⟩
    · refine Or.inl ⟨?_, u_flt g2 o3⟩
      rw [if_neg o2] at e
      rw [neg p.2 R e]
      exact o2
    · rw [if_pos o3.1.1] at e
      obtain ⟨x, ex, e⟩ := hf_bind e
      obtain ⟨y, ey, e⟩ := hf_bind e
      cases e
      have tq := tq_of o4 ht
      obtain ⟨hV', t99⟩ := r_then tq hV
      rw [hV'] at g2
      have t17 : (v.i 17).toInt = (s.i 17).toInt + 1 := by
        rw [o6]
        exact t17_up (N := N) hv
      have pq : phI v = phI s + 3 := by
        unfold phI
        rw [o8, t17]
        omega
      rcases hE2 d p.2 (TH v t 1 22) U m (t + 1) x o3.th (TH.tp tq (by omega)) TH.fk TH.fs (show 3 ≤ phI v by omega) ex g2 with ⟨x1, x2⟩ | ⟨m2, u, g3, xo, -, -, xc⟩
      · refine Or.inl ⟨?_, x2⟩
        rw [fst_add ey]
        exact x1
      · obtain ⟨w1, w2, w3, w4, w5, w6, w7, w8, w9⟩ := xo
        have u64 : u.a 64 t = 22 := by
          rw [(w3 t (by omega)).1, TH.fk0 (Nat.le_refl t), ((FRB.of (t := t + 1) o4) t (by omega)).1]
          exact hk
        have u65 : u.a 65 t = 1 := by
          rw [(w3 t (by omega)).2.1]
          exact TH.st
        have tu : tpI u = t := by
          rw [w2]
          omega
        have w6' : (v.i 11).toInt + 1 ≤ (u.i 11).toInt := w6
        have w7' : phI v + 1 ≤ phI u := w7
        have w8' : (v.i 17).toInt + 1 ≤ (u.i 17).toInt := w8
        have w9' : u.i 19 = v.i 19 := w9
        obtain ⟨m3, V3, hV3, g4⟩ := rl_22 g3 tu w1.1.2.1 u64
        unfold f_X12_one at hV3
        obtain ⟨-, hV3⟩ := hf_ite hV3
        rw [tp_nat tu, if_neg (by rw [u65]; decide), if_pos u65] at hV3
        obtain ⟨z, hz, hV3⟩ := hf_bind hV3
        cases hV3
        have e1' : (1 : Int32).toInt = 1 := by decide
        have ho := hv.2.2.1
        have ho2 := w1.2.2.1
        have u19 : (u.i 19).toInt = (s.i 19).toInt + 1 := by rw [w9', o12]
        have u191 : (u.i 19 - 1).toInt = (s.i 19).toInt := by rw [toInt_sub] <;> rw [e1'] <;> omega
        have ws : ENV d (CS.setI x.2 34 (x.2.i 34 - 1)) (RS.setI u 19 (u.i 19 - 1)) := w1.sg (by rw [ho2.1]) (by omega) (by omega) (by
          have := sg_room hv w1 ((CKX.of o5 o10 o11).tr w5) (by omega)
          unfold sgI at this
          rw [ho2.1] at this ⊢
          omega)
        obtain ⟨b1, b2, b3, b4, -, -⟩ := em_env ws (show 1 ≤ phI u by omega) hz
        obtain ⟨kq, y10, y11, -, -, -, -, y17, y19, -⟩ := qj2_eq b3
        have kd := kd_X0_add N _ 5 0 y ey
        obtain ⟨kp, -, -, -, e22, -, -, e43, -, -, -, e18⟩ := pj2_eq kd
        have b4' : phI z.2 = phI u - 1 := b4
        have kqu : qj z.2 = qj u := kq
        have tbz : TBK u z.2 := b2
        have kpx : pj y.2 = pj x.2 := kp
        refine Or.inr ⟨m3, _, g4, ⟨pop_env (b1.kd kd), tp_sub (tq_of kqu tu) t9, ((((FRB.of o4).tr TH.frb).tr (w3.mo (by omega))).tr (FRB.of kqu)).tr pop_frb, ((((TBK.of o4 (by rw [o8]; exact Int.le_refl _) (fun j _ => by rw [o9])).tr TH.tbk).tr w4).tr tbz).tr pop_tbk, ((CKX.of o5 o10 o11).tr w5).tr (CKX.of kpx e22 e18), ?_, ?_, ?_, ?_⟩, Or.inl rfl, ⟨fun q => absurd (show (0 : Int32) = 1 from q) (by decide), fun q => absurd q.1 no⟩, fun cr => ?_, fun z => absurd (show (0 : Int32) = 1 from z) (by decide)⟩
        · show (s.i 11).toInt + 1 ≤ (z.2.i 11).toInt
          have : z.2.i 11 = u.i 11 := y11
          rw [this]
          omega
        · show phI s + 1 ≤ phI z.2
          omega
        · show (s.i 17).toInt + 1 ≤ (z.2.i 17).toInt
          have : z.2.i 17 = u.i 17 := y17
          rw [this]
          omega
        · refine o19 ?_
          have : z.2.i 19 = u.i 19 - 1 := y19
          show (z.2.i 19).toInt = (s.i 19).toInt
          rw [this, u191]
        · obtain ⟨a1, a2, a3, a4, a5, a6⟩ := tok_cd hv o3 o5 (ke_X1_open N S 33 p ep) o13 o7
          have crp : CRB p.2 := cr.of a1 (by omega) (by omega)
          obtain ⟨f1, f2, f3, f4⟩ := xc.1 crp
          have crx : CRB x.2 := crp.of f1 (by omega) (by omega)
          have x44 := w1.p44
          have x44' : (x.2.i 44).toInt = (u.i 11).toInt := by rw [x44.1]
          obtain ⟨d1', d2', ⟨d3', d3''⟩, d4', d5', d6'⟩ := cd_add ey (show 0 ≤ (x.2.i 20).toInt from crx.1.1) (show (x.2.i 20).toInt < 1200 by have := crx.1.2; omega)
          have d1 : CD1 1 0 x.2 y.2 := d1'
          have d2 : (y.2.i 20).toInt = (x.2.i 20).toInt + 1 := d2'
          have d3 : y.2.a 15 (pcC x.2) = 5 := d3'
          have d4 : y.2.a 17 = x.2.a 17 := d4'
          have p20 := w1.p20
          obtain ⟨m1', -, m3', m4', -, -⟩ := cd_emit hz (show 0 ≤ (u.i 20).toInt from p20.1) (show (u.i 20).toInt < 3000 by omega)
          have m1 : CD2 (u.i 20).toInt u z.2 := m1'
          have m3e : (z.2.i 20).toInt = (u.i 20).toInt + 1 := m3'
          have m4 : z.2.a 21 (pcR u) = 10 := m4'
          have sT : CD2 (s.i 20).toInt s (TH v t 1 22) := (a3 _).tr (CD2.qe rfl)
          have su : CD2 (s.i 20).toInt s u := sT.tr (f3.wk (by show _ ≤ (v.i 20).toInt; rw [a6]; exact Int.le_refl _))
          have kT : TBK s (TH v t 1 22) := (TBK.of o4 (by rw [o8]; exact Int.le_refl _) (fun j _ => by rw [o9])).tr TH.tbk
          have mz : CD2 (u.i 20).toInt u (RS.setI z.2 63 (z.2.i 63 - 1)) := m1.tr (CD2.qe rfl)
          refine ⟨((a1.tr f1).tr d1).wk (by omega) (by omega), ((a2 _ _).tr (f2.wk (Int.le_refl _) (by rw [a5]; exact Int.le_refl _))).tr (CT7.eq d4), su.tr (mz.wk su.1.1), ?_⟩
          obtain ⟨Ψ1, sat1, f4⟩ := f4
          refine ⟨Ψ1, sat1.wd (MNO.of a1 sT) (MNO.of d1 mz), ?_⟩
          intro FC SF nm X c h w0 W g0 ps fc fr ng hc hh ty hW hg zz
          have pS : pcC p.2 = pcC S := by unfold pcC; rw [a4]
          have pSi : ((pcC S : Nat) : Int) = (S.i 20).toInt := Int.toNat_of_nonneg cr.1.1
          have pxi : ((pcC x.2 : Nat) : Int) = (x.2.i 20).toInt := Int.toNat_of_nonneg crx.1.1
          have pui : ((pcR u : Nat) : Int) = (u.i 20).toInt := Int.toNat_of_nonneg p20.1
          have lpx := f1.1.1
          rw [a4] at lpx
          have py : pcC y.2 = pcC x.2 + 1 := by
            unfold pcC
            rw [d2]
            have := crx.1.1
            omega
          have pz : ∀ k : Int32, pcR (RS.setI z.2 63 k) = pcR u + 1 := fun k => by
            unfold pcR
            rw [show (RS.setI z.2 63 k).i 20 = z.2.i 20 from rfl, m3e]
            have := p20.1
            omega
          rw [py, pz] at zz
          have f15 := fc.2.1 (pcC x.2) (by omega) (by show _ < (y.2.i 20).toInt; omega)
          have lsu := su.1.1
          have u21 := fr.2.1 (pcR u) (by omega) (by show _ < (z.2.i 20).toInt; omega)
          have fr1 : (z.2.i 20).toInt ≤ (U.i 20).toInt := fr.1.2.1
          have z0 := gs_not ⟨by have := crx.1.2; omega, by omega, fr.1.2.2⟩ hc (by rw [f15.1]; exact d3) (by rw [u21.1]; exact m4) zz
          have z1 := f4 FC SF nm X c h (w0 + 1) W g0 ps (fc.sub a1 d1 (CT7.eq d4)) (fr.sub sT mz (mz.c3 (Int.le_refl _))) (ng.mv hv.2.1.1 a1 sT kT.1.1.2.2.2.1 (fun j hj => (kT.1.2.1 j hj).2.1) (show (s.i 19).toInt ≤ (v.i 19).toInt by rw [o12]; omega)) hc (show ((2 * h + 0 + msr c : Nat) : Int) ≤ (v.i 11).toInt by omega) ty (by omega) hg z0
          rw [pS, show pcR (TH v t 1 22) = pcR s by unfold pcR; rw [show (TH v t 1 22).i 20 = v.i 20 from rfl, a6]] at z1
          rw [py, show w0 + (pcC x.2 + 1 - pcC S) = w0 + 1 + (pcC x.2 - pcC S) by omega]
          exact z1
  rw [if_neg c33] at e
  rw [if_neg (fun q => c33 (i33.mpr q))] at hV
  by_cases c91 : S.i 43 = 91
  · have k91 := i91.mp c91
    have no : ¬ s.i 10 = 432 := by rw [k91]; decide
    rw [if_pos c91] at e
    rw [if_pos k91] at hV
    obtain ⟨q, hq, hV⟩ := hf_bind hV
    rw [ob_id] at hV
    obtain ⟨p, e1, e⟩ := hf_bind e
    obtain ⟨x, e2, e⟩ := hf_bind e
    obtain ⟨y, e3, e⟩ := hf_bind e
    cases e
    have per : ¬ x.2.i 32 = 0 → ¬ y.2.i 32 = 0 := fun z => by rw [kF_X1_close N x.2 93 y e3 z]; exact z
    have per0 : ¬ p.2.i 32 = 0 → ¬ x.2.i 32 = 0 := fun z => by rw [kF_X1_condition N E1 E2 hm1 hm2 p.2 x e2 z]; exact z
    rcases y_open hN hv (c := 91) (d := 91) (Or.inl ⟨by decide, by decide⟩) (by decide) (by decide) (by decide) e1 hq with ⟨o1, o2, o3⟩ | ⟨o1, o2, o3, o4, o5, o6, o7, o8, o9, o10, o11, o12⟩
    · exact Or.inl ⟨per (per0 o2), u_flt g2 (krf_f_X12_then N q.2 2 20 V hV o3)⟩
    · have tq := tq_of o4 ht
      obtain ⟨hV', t99⟩ := r_then tq hV
      rw [hV'] at g2
      have t17 : (q.2.i 17).toInt = (s.i 17).toInt + 1 := by rw [o6]; exact t17_up (N := N) hv
      have pq : phI q.2 = phI s + 3 := by
        unfold phI
        rw [o8, t17]
        omega
      rcases sx_condition hN hm1 hm2 hE2 d p.2 (TH q.2 t 2 20) U m (t + 1) x o3.th (TH.tp tq (by omega)) TH.fk TH.fs (show 3 ≤ phI q.2 by omega) e2 g2 with ⟨x1, x2⟩ | ⟨m2, u, g3, xo, -, -, xc⟩
      · exact Or.inl ⟨per x1, x2⟩
      · obtain ⟨w1, w2, w3, w4, w5, w6, w7, w8, w9⟩ := xo
        have u64 : u.a 64 t = 22 := by
          rw [(w3 t (by omega)).1, TH.fk0 (Nat.le_refl t), ((FRB.of (t := t + 1) o4) t (by omega)).1]
          exact hk
        have u65 : u.a 65 t = 2 := by
          rw [(w3 t (by omega)).2.1]
          exact TH.st
        have tu : tpI u = t := by
          rw [w2]
          omega
        have w6' : (q.2.i 11).toInt + 1 ≤ (u.i 11).toInt := w6
        have w7' : phI q.2 + 1 ≤ phI u := w7
        have w8' : (q.2.i 17).toInt + 1 ≤ (u.i 17).toInt := w8
        have w9' : u.i 19 = q.2.i 19 := w9
        obtain ⟨m3, V3, hV3, g4⟩ := rl_22 g3 tu w1.1.2.1 u64
        unfold f_X12_one at hV3
        obtain ⟨-, hV3⟩ := hf_ite hV3
        rw [tp_nat tu, if_neg (by rw [u65]; decide), if_neg (by rw [u65]; decide), if_pos u65] at hV3
        obtain ⟨z, hz, hV3⟩ := hf_bind hV3
        cases hV3
        have ho := hv.2.2.1
        have u19 : (u.i 19).toInt = (s.i 19).toInt + 1 := by rw [w9', o12]
        rcases y_close hN w1 (sg_room hv w1 ((CKX.of o5 o10 o11).tr w5) (by omega)) (c := 93) (d := 93) (Or.inl ⟨by decide, by decide⟩) (by decide) (by decide) (by decide) e3 hz with ⟨b1, b2, b3⟩ | ⟨b1, b2, b3, b4, b5, b6, b7, b8, b9, b10, b11, b12⟩
        · exact Or.inl ⟨b2, u_flt g4 b3⟩
        · have z17 : (z.2.i 17).toInt = (u.i 17).toInt + 1 := by rw [b6]; exact t17_up (N := N) w1
          have pz : phI z.2 = phI u + 3 := by
            unfold phI
            rw [b8, z17]
            omega
          refine Or.inr ⟨m3, _, g4, ⟨pop_env b3, tp_sub (tq_of b4 tu) t9, ((((FRB.of o4).tr TH.frb).tr (w3.mo (by omega))).tr (FRB.of b4)).tr pop_frb, ((((TBK.of o4 (by rw [o8]; exact Int.le_refl _) (fun j _ => by rw [o9])).tr TH.tbk).tr w4).tr (TBK.of b4 (by rw [b8]; exact Int.le_refl _) (fun j _ => by rw [b9]))).tr pop_tbk, ((CKX.of o5 o10 o11).tr w5).tr (CKX.of b5 b10 b11), ?_, ?_, ?_, ?_⟩, Or.inl rfl, ⟨fun q => absurd (show (0 : Int32) = 1 from q) (by decide), fun q => absurd q.1 no⟩, fun cr => ?_, fun z => absurd (show (0 : Int32) = 1 from z) (by decide)⟩
          · show (s.i 11).toInt + 1 ≤ (z.2.i 11).toInt
            omega
          · show phI s + 1 ≤ phI z.2
            omega
          · show (s.i 17).toInt + 1 ≤ (z.2.i 17).toInt
            omega
          · exact o19 (by show (z.2.i 19).toInt = _; rw [b12]; omega)
          · obtain ⟨a1, a2, a3, a4, a5, a6⟩ := tok_cd hv o3 o5 (ke_X1_open N S 91 p e1) (kre_f_X12_open N s 91 q hq) o7
            have crp : CRB p.2 := cr.of a1 (by omega) (by omega)
            obtain ⟨f1, f2, f3, f4⟩ := xc.1 crp
            have crx : CRB x.2 := crp.of f1 (by omega) (by omega)
            obtain ⟨j1, j2, j3, j4, j5, j6⟩ := tok_cd w1 b3 b5 (ke_X1_close N x.2 93 y e3) (kre_f_X12_shut N u 93 z hz) b7
            have sT : CD2 (s.i 20).toInt s (TH q.2 t 2 20) := (a3 _).tr (CD2.qe rfl)
            have su : CD2 (s.i 20).toInt s u := sT.tr (f3.wk (by show _ ≤ (q.2.i 20).toInt; rw [a6]; exact Int.le_refl _))
            have kT : TBK s (TH q.2 t 2 20) := (TBK.of o4 (by rw [o8]; exact Int.le_refl _) (fun j _ => by rw [o9])).tr TH.tbk
            refine ⟨((a1.tr f1).tr j1).wk (by omega) (by omega), ((a2 _ _).tr (f2.wk (Int.le_refl _) (by rw [a5]; exact Int.le_refl _))).tr (j2 _ _), (su.tr (j3 _)).tr (CD2.qe rfl), ?_⟩
            obtain ⟨Ψ1, sat1, f4⟩ := f4
            refine ⟨Ψ1, sat1.wd (MNO.of a1 sT) (MNO.of j1 ((j3 0).tr (CD2.qe rfl))), ?_⟩
            intro FC SF nm X c h w0 W g0 ps fc fr ng hc hh ty hW hg zz
            have pS : pcC p.2 = pcC S := by unfold pcC; rw [a4]
            have px : pcC y.2 = pcC x.2 := by unfold pcC; rw [j4]
            have pu : ∀ v : Int32, pcR (RS.setI z.2 63 v) = pcR u := fun v => by
              unfold pcR
              rw [show (RS.setI z.2 63 v).i 20 = z.2.i 20 from rfl, j6]
            rw [px, pu] at zz
            have z1 := f4 FC SF nm X c h w0 W g0 ps (fc.sub a1 j1 (j2 _ _)) (fr.sub sT ((j3 0).tr (CD2.qe rfl)) (((j3 (u.i 20).toInt).tr (CD2.qe rfl)).c3 (Int.le_refl _))) (ng.mv hv.2.1.1 a1 sT kT.1.1.2.2.2.1 (fun j hj => (kT.1.2.1 j hj).2.1) (show (s.i 19).toInt ≤ (q.2.i 19).toInt by rw [o12]; omega)) hc (show ((2 * h + 0 + msr c : Nat) : Int) ≤ (q.2.i 11).toInt by omega) ty hW hg zz
            rw [pS, show pcR (TH q.2 t 2 20) = pcR s by unfold pcR; rw [show (TH q.2 t 2 20).i 20 = q.2.i 20 from rfl, a6]] at z1
            rw [px]
            exact z1
  rw [if_neg c91] at e
  rw [if_neg (fun q => c91 (i91.mpr q))] at hV
  -- true, false
  have word : ∀ (vl b : Int32) (p33 : Unit × CS) (p29 : Unit × CS), ¬ S.i 43 = 0 → (vl = 0 ∨ vl = 1) → f_X0_add N S 0 vl = some p29 → f_X9_advance N p29.2 = some p33 → ((f_X12_emit N s 2 vl).bind fun p11 => (f_X12_next N p11.2).bind fun p9 => some (RS.setI p9 63 ((p9.i 63) - 1))) = some V → ∃ (m : Nat) (u : RS), f_X12_parse_10 N m u = some U ∧ XO d t S s p33.2 u ∧ (u.i 17).toInt = (s.i 17).toInt + 1 ∧ CDE 2 U S s p33.2 u ∧ (vl = 1 → CDE 4 U S s p33.2 u) := fun vl b p33 p29 nz hb e1 e2 hV => by
    obtain ⟨w, hw, hV⟩ := hf_bind hV
    obtain ⟨v, hw2, hV⟩ := hf_bind hV
    cases hV
    obtain ⟨w1, w2, w3, w4, -, -⟩ := em_env hv (by omega) hw
    obtain ⟨kq, y10, y11, -, -, -, -, y17, y19, -⟩ := qj2_eq w3
    have kd := kd_X0_add N S 0 vl p29 e1
    obtain ⟨kp, -, -, -, e22, -, -, e43, -, -, -, e18⟩ := pj2_eq kd
    obtain ⟨a1, a2, a3, a4, a5, a6, a7, a8, a9, a10⟩ := (w1.kd kd).adv hN (by rw [e43]; exact nz) e2 hw2
    have tv := tq_of a2 (tq_of kq ht)
    have t17 : (v.i 17).toInt = (s.i 17).toInt + 1 := by rw [a4, y17]; exact t17_up (N := N) hv
    refine ⟨m, _, g2, ⟨pop_env a1, tp_sub tv t9, ((FRB.of kq).tr (FRB.of a2)).tr pop_frb, (w2.tr (TBK.of a2 (by rw [a6]; exact Int.le_refl _) (fun j _ => by rw [a7]))).tr pop_tbk, (CKX.of kp e22 e18).tr (CKX.of a3 a8 a9), ?_, ?_, ?_, ?_⟩, t17, cde_one hN hv (by omega) e1 hw (w1.kd kd) (by rw [e43]; exact nz) e2 hw2 (fun FC SF nm X c h w1' g0 pq hc hh ng x1 x2 x3 x4 z => gs_push pq hc x1 x3 (by rw [x2, x4]) hh (Or.inr (Or.inl ⟨rfl, by rw [x2]; exact hb⟩)) z), fun v1 => cde_one hN hv (by omega) e1 hw (w1.kd kd) (by rw [e43]; exact nz) e2 hw2 (fun FC SF nm X c h w1' g0 pq hc hh ng x1 x2 x3 x4 z => gs_push pq hc x1 x3 (by rw [x2, x4]) hh (Or.inr (Or.inr ⟨rfl, by rw [x2]; exact v1⟩)) z)⟩
    · show (s.i 11).toInt + 1 ≤ (v.i 11).toInt
      rw [y11] at a5
      exact a5
    · show phI s + 1 ≤ phI v
      have : phI v = phI w.2 + 3 := by
        unfold phI
        rw [a6, t17, y17]
        omega
      omega
    · show (s.i 17).toInt + 1 ≤ (v.i 17).toInt
      omega
    · exact a10.trans y19
  by_cases ctr : S.i 43 = 222
  · have ktr := itr.mp ctr
    rw [if_pos ctr] at e
    rw [if_pos ktr, if_pos ktr] at hV
    obtain ⟨p29, e1, e⟩ := hf_bind e
    obtain ⟨p33, e2, e⟩ := hf_bind e
    cases e
    obtain ⟨m2, u, y1, y2, y3, y4⟩ := word 1 0 p33 p29 (by rw [ctr]; decide) (Or.inr rfl) e1 e2 hV
    exact Or.inr ⟨m2, u, y1, y2, Or.inr rfl, ⟨fun _ => ⟨ktr, y3⟩, fun _ => rfl⟩, y4.1, fun _ => y4.2 rfl⟩
  rw [if_neg ctr] at e
  have ktr : ¬ s.i 10 = 432 := fun q => ctr (itr.mpr q)
  rw [if_neg ktr] at hV
  by_cases cfa : S.i 43 = 223
  · have kfa := ifa.mp cfa
    rw [if_pos cfa] at e
    rw [if_pos kfa, if_neg ktr] at hV
    obtain ⟨p29, e1, e⟩ := hf_bind e
    obtain ⟨p33, e2, e⟩ := hf_bind e
    cases e
    obtain ⟨m2, u, y1, y2, y3, y4⟩ := word 0 0 p33 p29 (by rw [cfa]; decide) (Or.inl rfl) e1 e2 hV
    exact Or.inr ⟨m2, u, y1, y2, Or.inl rfl, ⟨fun q => absurd (show (0 : Int32) = 1 from q) (by decide), fun q => absurd q.1 ktr⟩, y4.1, fun z => absurd (show (0 : Int32) = 1 from z) (by decide)⟩
  rw [if_neg cfa] at e
  rw [if_neg (fun q => cfa (ifa.mpr q)), ob_id] at hV
  obtain ⟨p, e1, e⟩ := hf_bind e
  cases e
  obtain ⟨hV', t99⟩ := r_then ht hV
  rw [hV'] at g2
  rcases sx_comparison hN hm1 hm2 hE hv ht hk h3 t99 e1 g2 with z | ⟨m2, u, y1, y2, y4⟩
  · exact Or.inl z
  · exact Or.inr ⟨m2, u, y1, y2, Or.inl rfl, ⟨fun q => absurd (show (0 : Int32) = 1 from q) (by decide), fun q => absurd q.1 ktr⟩, y4, fun z => absurd (show (0 : Int32) = 1 from z) (by decide)⟩
end
section
/-! both readers: the numbers of a switch -/
/-- the entries of a switch, from the first on -/
def chn (s : RS) : Int32 → List Nat → Prop
  | k, [] => k.toInt < 0
  | k, j :: L => k.toInt = (j : Int) ∧ (j : Int) < (s.i 24).toInt ∧ (∀ i ∈ L, j < i) ∧ chn s (s.a 27 j) L
theorem chn.up {s u : RS} (h24 : (s.i 24).toInt ≤ (u.i 24).toInt) (h27 : ∀ j : Nat, (j : Int) < (s.i 24).toInt → u.a 27 j = s.a 27 j) : ∀ (L : List Nat) (k : Int32), chn s k L → chn u k L
  | [], _, h => h
  | j :: L, k, h => ⟨h.1, by have := h.2.1; omega, h.2.2.1, by rw [h27 j h.2.1]; exact chn.up h24 h27 L _ h.2.2.2⟩
theorem chn.lt {s : RS} : ∀ (L : List Nat) (k : Int32), chn s k L → ∀ j ∈ L, (j : Int) < (s.i 24).toInt
  | [], _, _, j, hj => absurd hj List.not_mem_nil
  | a :: L, k, h, j, hj => by
    rcases List.mem_cons.mp hj with rfl | hj
    · exact h.2.1
    · exact chn.lt L _ h.2.2.2 j hj
/-- the same numbers stand in both: the class's from f on, the reference's on the chain L -/
def CSE (S : CS) (s : RS) (f : Int32) (L : List Nat) : Prop := 0 ≤ f.toInt ∧ f.toInt ≤ (S.i 22).toInt ∧ ∀ v : Int32, (∃ i : Nat, f.toInt ≤ (i : Int) ∧ (i : Int) < (S.i 22).toInt ∧ S.a 18 i = v) ↔ (∃ j ∈ L, s.a 28 j = 0 ∧ s.a 25 j = v)
/-- the class: does the number stand there -/
theorem y_has {N : Nat} {S : CS} {v : Int32} : ∀ (n : Nat) (x : Int32) (P : Int32 × CS), 0 ≤ x.toInt → (S.i 22).toInt ≤ 320 → f_X0_hasCase_2 N n S v x = some P → P.2 = S ∧ ((P.1 = 0 ∧ ¬ ∃ i : Nat, x.toInt ≤ (i : Int) ∧ (i : Int) < (S.i 22).toInt ∧ S.a 18 i = v) ∨ (P.1 = 1 ∧ ∃ i : Nat, x.toInt ≤ (i : Int) ∧ (i : Int) < (S.i 22).toInt ∧ S.a 18 i = v))
  | 0, _, _, _, _, e => by cases e
  | n + 1, x, P, h0, h3, e => by
    have e' : b_X0_hasCase_2 N (f_X0_hasCase_2 N n) S v x = some P := e
    unfold b_X0_hasCase_2 at e'
    by_cases c : S.i 22 ≤ x
    · rw [if_pos c] at e'
      cases e'
      have := le_int c
      exact ⟨rfl, Or.inl ⟨rfl, fun ⟨i, i1, i2, _⟩ => by omega⟩⟩
    · rw [if_neg c] at e'
      have lt := lt_int (Int32.not_le.mp c)
      have ck := clampI h0
      have hib : ib x 320 := ⟨h0, by omega⟩
      have eg : gAt (S.a 18) 320 x = S.a 18 x.toNatClampNeg := by
        unfold gAt
        exact if_pos hib
      rw [eg] at e'
      by_cases d : S.a 18 x.toNatClampNeg = v
      · rw [if_pos d] at e'
        cases e'
        exact ⟨rfl, Or.inr ⟨rfl, x.toNatClampNeg, by omega, by omega, d⟩⟩
      · rw [if_neg d] at e'
        have e1 : (x + 1).toInt = x.toInt + 1 := ad1 h0 (by omega)
        obtain ⟨p1, p2⟩ := y_has n (x + 1) P (by omega) h3 e'
        refine ⟨p1, ?_⟩
        rcases p2 with ⟨q1, q2⟩ | ⟨q1, i, i1, i2, i3⟩
        · refine Or.inl ⟨q1, fun ⟨i, i1, i2, i3⟩ => ?_⟩
          by_cases z : (i : Int) = x.toInt
          · have : i = x.toNatClampNeg := by omega
            rw [this] at i3
            exact d i3
          · exact q2 ⟨i, by omega, i2, i3⟩
        · exact Or.inr ⟨q1, i, by omega, i2, i3⟩
/-- the reference: does the number stand there; then no entry comes -/
theorem y_75 {N : Nat} {x1 v : Int32} : ∀ (n : Nat) (L : List Nat) (s : RS) (k : Int32) (Q : Int32 × RS), chn s k L → f_X12_caseNumber_75 N n s x1 v k = some Q → ((¬ s.i 15 = 0 ∨ ∃ j ∈ L, s.a 28 j = 0 ∧ s.a 25 j = v) → Q.1 = 0 ∧ ¬ Q.2.i 15 = 0) ∧ (s.i 15 = 0 → (¬ ∃ j ∈ L, s.a 28 j = 0 ∧ s.a 25 j = v) → ((f_X12_entry N s x1 v 0).bind fun p13 => (f_X12_next N p13).bind fun p15 => f_X12_caseNumber_140 N p15) = some Q)
  | 0, _, _, _, _, _, e => by cases e
  | n + 1, L, s, k, Q, hL, e => by
    have e' : b_X12_caseNumber_75 N (f_X12_caseNumber_75 N n) s x1 v k = some Q := e
    unfold b_X12_caseNumber_75 at e'
    cases L with
    | nil =>
      have k0 : k < 0 := by rw [Int32.lt_iff_toInt_lt, z_t0]; exact hL
      rw [if_pos k0] at e'
      refine ⟨fun q => ?_, fun h15 _ => ?_⟩
      · have f15 : ¬ s.i 15 = 0 := q.elim id (fun ⟨j, hj, _⟩ => absurd hj List.not_mem_nil)
        unfold f_X12_caseNumber_140 at e'
        rw [if_neg f15, if_neg f15] at e'
        cases e'
        exact ⟨rfl, f15⟩
      · rw [if_pos h15] at e'
        exact e'
    | cons j L =>
      obtain ⟨k1, k2, -, k3⟩ := hL
      have k0 : ¬ k < 0 := fun q => by
        have := lt_int q
        rw [z_t0] at this
        omega
      rw [if_neg k0] at e'
      obtain ⟨hib, e'⟩ := hf_ite e'
      have ek : k.toNatClampNeg = j := by
        show k.toInt.toNat = j
        rw [k1]
        exact Int.toNat_natCast _
      rw [ek] at e'
      by_cases d : s.a 28 j = 0
      · rw [if_pos d] at e'
        by_cases d2 : s.a 25 j = v
        · rw [if_pos d2, e_fail, ob_some] at e'
          obtain ⟨s2, hs2⟩ : ∃ y, y = (if s.i 15 = 0 then (s.setI 15 4).setI 16 (s.i 11) else s) := ⟨_, rfl⟩
          rw [← hs2] at e'
          have f2 : ¬ s2.i 15 = 0 := by
            rw [hs2]
            by_cases c : s.i 15 = 0
            · rw [if_pos c]
              show ¬ (4 : Int32) = 0
              decide
            · rw [if_neg c]
              exact c
          have a2 : s2.a = s.a ∧ s2.i 24 = s.i 24 := by
            rw [hs2]
            by_cases c : s.i 15 = 0
            · rw [if_pos c]
              exact ⟨rfl, rfl⟩
            · rw [if_neg c]
              exact ⟨rfl, rfl⟩
          clear hs2
          have hL2 : chn s2 (s2.a 27 j) L := by
            rw [a2.1]
            exact chn.up (by rw [a2.2]; exact Int.le_refl _) (fun i _ => by rw [a2.1]) L _ k3
          have r := y_75 n L s2 (s2.a 27 j) Q hL2 e'
          refine ⟨fun _ => r.1 (Or.inl f2), fun _ q => absurd ⟨j, List.mem_cons_self, d, d2⟩ q⟩
        · rw [if_neg d2] at e'
          have r := y_75 n L s (s.a 27 j) Q k3 e'
          refine ⟨fun q => r.1 (q.imp id (fun ⟨i, hi, i1, i2⟩ => ?_)), fun h15 q => r.2 h15 (fun ⟨i, hi, i1, i2⟩ => q ⟨i, List.mem_cons_of_mem _ hi, i1, i2⟩)⟩
          rcases List.mem_cons.mp hi with rfl | hi
          · exact absurd i2 d2
          · exact ⟨i, hi, i1, i2⟩
      · rw [if_neg d] at e'
        have r := y_75 n L s (s.a 27 j) Q k3 e'
        refine ⟨fun q => r.1 (q.imp id (fun ⟨i, hi, i1, i2⟩ => ?_)), fun h15 q => r.2 h15 (fun ⟨i, hi, i1, i2⟩ => q ⟨i, List.mem_cons_of_mem _ hi, i1, i2⟩)⟩
        rcases List.mem_cons.mp hi with rfl | hi
        · exact absurd i1 d
        · exact ⟨i, hi, i1, i2⟩
end
section
/-! both readers: a number of a switch -/
/-- an entry more, at the end of the chain -/
def ENR (s : RS) (t : Nat) (v b : Int32) (u : RS) : Prop := u.i 24 = s.i 24 + 1 ∧ (0 ≤ (s.i 24).toInt ∧ (s.i 24).toInt < 500) ∧ u.a 25 = upd (s.a 25) (s.i 24).toNatClampNeg v ∧ u.a 28 = upd (s.a 28) (s.i 24).toNatClampNeg b ∧ u.a 67 = upd (s.a 67) t (s.i 24) ∧ ((0 ≤ (s.a 67 t).toInt ∧ u.a 27 = upd (upd (s.a 27) (s.i 24).toNatClampNeg (-1)) (s.a 67 t).toNatClampNeg (s.i 24) ∧ u.a 22 = s.a 22) ∨ ((s.a 67 t).toInt < 0 ∧ u.a 27 = upd (s.a 27) (s.i 24).toNatClampNeg (-1) ∧ u.a 22 = upd (s.a 22) (s.a 66 t).toNatClampNeg (s.i 24) ∧ 0 ≤ (s.a 66 t).toInt)) ∧ (∀ k : Nat, k ≠ 22 → k ≠ 25 → k ≠ 26 → k ≠ 27 → k ≠ 28 → k ≠ 67 → u.a k = s.a k) ∧ (∀ k : Nat, k ≠ 24 → u.i k = s.i k) ∧ u.b = s.b ∧ u.l = s.l ∧ u.a 26 = upd (s.a 26) (s.i 24).toNatClampNeg (s.i 20)
theorem y_entry {N : Nat} {s u : RS} {t : Nat} {x v y : Int32} (hx : x.toNatClampNeg = t) (g : f_X12_entry N s x v y = some u) : ENR s t v (vp_nar .boolean y) u := by
  unfold f_X12_entry f_X12_entry_85 at g
  obtain ⟨i1, g⟩ := hf_ite g
  obtain ⟨i2, g⟩ := hf_ite g
  rw [hx] at g
  by_cases c : 0 ≤ s.a 67 t
  · rw [if_pos c] at g
    obtain ⟨i3, g⟩ := hf_ite g
    obtain ⟨i4, g⟩ := hf_ite g
    cases g
    exact ⟨rfl, ⟨i1.1, i1.2⟩, rfl, rfl, rfl, Or.inl ⟨i3.1, rfl, rfl⟩, fun k h1 h2 h3 h4 h5 h6 => (if_neg h6).trans ((if_neg h4).trans ((if_neg h5).trans ((if_neg h4).trans ((if_neg h3).trans (if_neg h2))))), fun k h => if_neg h, rfl, rfl, rfl⟩
  · rw [if_neg c] at g
    obtain ⟨i3, g⟩ := hf_ite g
    obtain ⟨i4, g⟩ := hf_ite g
    cases g
    have lt := lt_int (Int32.not_le.mp c)
    rw [z_t0] at lt
    exact ⟨rfl, ⟨i1.1, i1.2⟩, rfl, rfl, rfl, Or.inr ⟨lt, rfl, rfl, i3.1⟩, fun k h1 h2 h3 h4 h5 h6 => (if_neg h6).trans ((if_neg h1).trans ((if_neg h5).trans ((if_neg h4).trans ((if_neg h3).trans (if_neg h2))))), fun k h => if_neg h, rfl, rfl, rfl⟩
end
section
/-! both readers: a number of a switch, whole -/
/-- the chain's last entry -/
def FQL (s : RS) (t : Nat) (L : List Nat) : Prop := (L = [] → (s.a 67 t).toInt < 0) ∧ (∀ (L0 : List Nat) (j : Nat), L = L0 ++ [j] → (s.a 67 t).toInt = (j : Int))
/-- one more at the end of a chain -/
theorem chn.snoc {s u : RS} {j e : Nat} (h24 : (u.i 24).toInt = (e : Int) + 1) (he : (s.i 24).toInt = (e : Int)) (hj : u.a 27 j = Int32.ofNat e) (hn : (u.a 27 e).toInt < 0) (h27 : ∀ i : Nat, i < e → i ≠ j → u.a 27 i = s.a 27 i) (h31 : e < 2 ^ 31) : ∀ (L : List Nat) (k : Int32), chn s k (L ++ [j]) → chn u k (L ++ [j] ++ [e])
  | [], k, h => by
    obtain ⟨h1, h2, -, -⟩ := h
    refine ⟨h1, by omega, fun i hi => ?_, ?_, by omega, fun i hi => absurd hi List.not_mem_nil, hn⟩
    · rcases List.mem_cons.mp hi with rfl | hi
      · omega
      · exact absurd hi List.not_mem_nil
    · rw [hj, Int32.toInt_ofNat_of_lt h31]
  | a :: L, k, h => by
    obtain ⟨h1, h2, h3, h4⟩ := h
    have aj : a < j := h3 j (List.mem_append_right _ List.mem_cons_self)
    refine ⟨h1, by omega, fun i hi => ?_, ?_⟩
    · rcases List.mem_append.mp hi with hi | hi
      · exact h3 i hi
      · rcases List.mem_cons.mp hi with rfl | hi
        · omega
        · exact absurd hi List.not_mem_nil
    · rw [h27 a (by omega) (by omega)]
      exact chn.snoc h24 he hj hn h27 h31 L _ h4
/-- what an entry does to the chain -/
theorem ENR.chain {s u : RS} {t : Nat} {v b : Int32} {L : List Nat} (h : ENR s t v b u) (hl : chn s (s.a 22 (s.a 66 t).toNatClampNeg) L) (hq : FQL s t L) : ∃ e : Nat, (s.i 24).toInt = (e : Int) ∧ chn u (u.a 22 (u.a 66 t).toNatClampNeg) (L ++ [e]) ∧ FQL u t (L ++ [e]) ∧ u.a 25 e = v ∧ u.a 28 e = b ∧ (∀ i : Nat, i < e → u.a 25 i = s.a 25 i ∧ u.a 28 i = s.a 28 i) ∧ (∀ i : Nat, i < e → i ∉ L → u.a 27 i = s.a 27 i) ∧ (∀ i : Nat, ¬ i = (s.a 66 t).toNatClampNeg → u.a 22 i = s.a 22 i) := by
  obtain ⟨h1, h2, h3, h4, h5, h6, h7, h8, -, -⟩ := h
  have ck := clampI h2.1
  have u66 : u.a 66 = s.a 66 := h7 66 (by decide) (by decide) (by decide) (by decide) (by decide) (by decide)
  have e24 : (u.i 24).toInt = (s.i 24).toInt + 1 := by rw [h1]; exact ad1 h2.1 (by omega)
  have fql : FQL u t (L ++ [(s.i 24).toNatClampNeg]) := by
    refine ⟨fun q => absurd q (by simp), fun L0 j q => ?_⟩
    have := List.append_inj_right' q rfl
    have ej : (s.i 24).toNatClampNeg = j := by simpa using this
    rw [h5, ← ej]
    show (if t = t then s.i 24 else s.a 67 t).toInt = _
    rw [if_pos rfl]
    omega
  have ue : u.a 25 (s.i 24).toNatClampNeg = v := by rw [h3]; exact if_pos rfl
  have ub : u.a 28 (s.i 24).toNatClampNeg = b := by rw [h4]; exact if_pos rfl
  have ul : ∀ i : Nat, i < (s.i 24).toNatClampNeg → u.a 25 i = s.a 25 i ∧ u.a 28 i = s.a 28 i := fun i hi => by
    rw [h3, h4]
    exact ⟨if_neg (by omega), if_neg (by omega)⟩
  have em : (-1 : Int32).toInt = -1 := by decide
  have e31 : (s.i 24).toNatClampNeg < 2 ^ 31 := by omega
  have eof : Int32.ofNat (s.i 24).toNatClampNeg = s.i 24 := by
    refine Int32.toInt_inj.mp ?_
    rw [Int32.toInt_ofNat_of_lt e31]
    omega
  rcases h6 with ⟨q1, q2, q3⟩ | ⟨q1, q2, q3, q4⟩
  · -- behind another one
    have nn : ¬ L = [] := fun z => by
      have := hq.1 z
      omega
    obtain ⟨L0, j, hj⟩ : ∃ L0 j, L = L0 ++ [j] := ⟨L.dropLast, L.getLast nn, (List.dropLast_concat_getLast nn).symm⟩
    have jq := hq.2 L0 j hj
    have ejq : (s.a 67 t).toNatClampNeg = j := by
      show (s.a 67 t).toInt.toNat = j
      rw [jq]
      exact Int.toNat_natCast _
    have jl := chn.lt L _ hl j (by rw [hj]; exact List.mem_append_right _ List.mem_cons_self)
    rw [ejq] at q2
    refine ⟨(s.i 24).toNatClampNeg, by omega, ?_, fql, ue, ub, ul, fun i hi hiL => ?_, fun i _ => by rw [q3]⟩
    · rw [q3, u66, hj]
      rw [hj] at hl
      refine chn.snoc (by omega) (by omega) ?_ ?_ (fun i hi hij => ?_) e31 L0 _ hl
      · rw [q2, eof]
        exact if_pos rfl
      · rw [q2]
        show (if (s.i 24).toNatClampNeg = j then s.i 24 else (if (s.i 24).toNatClampNeg = (s.i 24).toNatClampNeg then (-1 : Int32) else _)).toInt < 0
        rw [if_neg (by omega), if_pos rfl, em]
        omega
      · rw [q2]
        exact (if_neg hij).trans (if_neg (by omega))
    · rw [q2]
      exact (if_neg (fun z => hiL (by rw [z, hj]; exact List.mem_append_right _ List.mem_cons_self))).trans (if_neg (by omega))
  · -- the first one
    have nL : L = [] := by
      cases L with
      | nil => rfl
      | cons a L =>
        exfalso
        have nn : ¬ (a :: L) = [] := by simp
        have := hq.2 (a :: L).dropLast ((a :: L).getLast nn) (List.dropLast_concat_getLast nn).symm
        omega
    refine ⟨(s.i 24).toNatClampNeg, by omega, ?_, fql, ue, ub, ul, fun i hi _ => by rw [q2]; exact if_neg (by omega), fun i hi => by rw [q3]; exact if_neg hi⟩
    rw [nL, q3, u66]
    show chn u (if (s.a 66 t).toNatClampNeg = (s.a 66 t).toNatClampNeg then s.i 24 else _) [(s.i 24).toNatClampNeg]
    rw [if_pos rfl]
    refine ⟨by omega, by omega, fun i hi => absurd hi List.not_mem_nil, ?_⟩
    rw [q2]
    show (if (s.i 24).toNatClampNeg = (s.i 24).toNatClampNeg then (-1 : Int32) else _).toInt < 0
    rw [if_pos rfl, em]
    omega
end
section
/-! both readers: a number of a switch is read -/
theorem ENV.re {d : Int32} {S R : CS} {s u : RS} (h : ENV d S s) (b : BT R u) (q2 : pj R = pj S) (c34 : R.i 34 = S.i 34) (j38 : u.i 38 = s.i 38) (j3 : u.i 3 = s.i 3) (j18 : u.i 18 = s.i 18) (j53 : u.i 53 = s.i 53) (j54 : u.i 54 = s.i 54) (j55 : u.i 55 = s.i 55) (x4 : u.a 4 = s.a 4) (x41 : u.a 41 = s.a 41) (y39 : u.b 39 = s.b 39) (e17 : (u.i 17).toInt = (s.i 17).toInt + 1) (e19 : u.i 19 = s.i 19) (e20 : u.i 20 = s.i 20) (f1 : (s.i 11).toInt + 1 ≤ (u.i 11).toInt) (c22 : 0 ≤ (R.i 22).toInt ∧ 3 * (R.i 22).toInt ≤ (u.i 11).toInt) (he : eI S ≤ eI R) (hw : WPI u) (hlb : LBW R) : ENV d R u := by
  obtain ⟨h1, ⟨n1, n2, n3, n4⟩, ⟨o1, o2, o3⟩, ⟨c1, c2, c3⟩, l1, ⟨m1, m2, m3, m4, m5⟩, ⟨r1, r2, r3, r4, r5, r6, r7, r8, r9, -⟩⟩ := h
  obtain ⟨-, -, -, -, i13, -, i24, i25, i26, -, -, i37, -, i50, -, -, -, -, -, a9, -, a49, -, -, -, -, eb, i21, -⟩ := pj_eq q2
  exact ⟨b, ⟨by rw [i50, j38]; exact n1, by rw [j38]; omega, fun k hk => by rw [j38] at hk; rw [eb, a49, y39, x41]; exact n3 k hk, fun j k hj hk => by rw [j38] at hk; rw [y39]; exact n4 j k hj hk⟩, ⟨by rw [c34, e19]; exact o1, by rw [e19]; exact o2, by rw [e19]; exact o3⟩, ⟨by rw [i24, j53]; exact c1, by rw [i26, j55]; exact c2, by rw [i25, j54]; exact c3⟩, by unfold LTE at *; rw [i37, j18]; exact l1, ⟨by rw [i13, j3]; exact m1, by rw [a9]; exact m2, fun k h1 h2 => by rw [j3] at h2; rw [a9, x4]; exact m3 k h1 h2, by rw [j3]; exact m4, fun k h1 h2 => by rw [j3] at h2; rw [x4]; exact m5 k h1 h2⟩, ⟨by rw [e20]; exact r1, by unfold phI at *; rw [e20, e17]; omega, by rw [e17]; omega, c22.1, c22.2, by rw [i21]; exact r6, by rw [i21]; omega, r8.kp q2 (by unfold sgI; rw [c34]; exact Int.le_refl _) he, (r9.kp q2 rfl).up (by omega), hw, hlb⟩⟩
/-- what a number read leaves -/
def CNR9 (d : Int32) (t : Nat) (f : Int32) (L : List Nat) (v : Int32) (S : CS) (s : RS) (R : CS) (u : RS) : Prop := ∃ e : Nat, (s.i 24).toInt = (e : Int) ∧ CSE R u f (L ++ [e]) ∧ chn u (u.a 22 (u.a 66 t).toNatClampNeg) (L ++ [e]) ∧ FQL u t (L ++ [e]) ∧ pj R = pj S ∧ (R.i 22).toInt = (S.i 22).toInt + 1 ∧ (∀ i : Nat, (i : Int) < (S.i 22).toInt → R.a 18 i = S.a 18 i) ∧ R.a 18 (S.i 22).toInt.toNat = v ∧ (¬ ∃ i : Nat, f.toInt ≤ (i : Int) ∧ (i : Int) < (S.i 22).toInt ∧ S.a 18 i = v) ∧ ((3 * ((S.i 22).toInt + 1) ≤ (u.i 11).toInt) → ENV d R u) ∧ (s.i 11).toInt + 1 ≤ (u.i 11).toInt ∧ (u.i 17).toInt = (s.i 17).toInt + 1 ∧ u.i 20 = s.i 20 ∧ u.i 19 = s.i 19 ∧ u.i 63 = s.i 63 ∧ (u.i 24).toInt = (s.i 24).toInt + 1 ∧ (∀ k : Nat, k ≠ 22 → k ≠ 25 → k ≠ 26 → k ≠ 27 → k ≠ 28 → k ≠ 67 → u.a k = s.a k) ∧ (∀ j : Nat, j ≠ t → u.a 67 j = s.a 67 j) ∧ (∀ i : Nat, i < e → u.a 25 i = s.a 25 i ∧ u.a 28 i = s.a 28 i) ∧ (∀ i : Nat, i < e → i ∉ L → u.a 27 i = s.a 27 i) ∧ (∀ i : Nat, ¬ i = (s.a 66 t).toNatClampNeg → u.a 22 i = s.a 22 i) ∧ (∀ k : Nat, k ≠ 10 → k ≠ 11 → k ≠ 12 → k ≠ 14 → k ≠ 17 → k ≠ 24 → u.i k = s.i k) ∧ u.b = s.b ∧ ((S.i 44).toInt + 1 < (S.i 42).toInt → (s.i 11).toInt + 1 < (u.i 11).toInt)
/-- what a number read lays: no code, a case with its target, an entry with its place -/
def CNC (tgt : Int32) (S : CS) (s : RS) (R : CS) (u : RS) : Prop := (R.i 20 = S.i 20 ∧ R.i 23 = S.i 23 ∧ R.i 38 = S.i 38 ∧ R.a 15 = S.a 15 ∧ R.a 16 = S.a 16 ∧ R.a 17 = S.a 17) ∧ (∀ i : Nat, (i : Int) < (S.i 22).toInt → R.a 19 i = S.a 19 i) ∧ R.a 19 (S.i 22).toInt.toNat = tgt ∧ ∃ e : Nat, (s.i 24).toInt = (e : Int) ∧ u.a 26 e = s.i 20 ∧ ∀ i : Nat, i < e → u.a 26 i = s.a 26 i
theorem CSE.add {S R : CS} {s u : RS} {f v : Int32} {L : List Nat} {e : Nat} (h : CSE S s f L) (h22 : (R.i 22).toInt = (S.i 22).toInt + 1) (h0 : 0 ≤ (S.i 22).toInt) (ha : ∀ i : Nat, (i : Int) < (S.i 22).toInt → R.a 18 i = S.a 18 i) (hv : R.a 18 (S.i 22).toInt.toNat = v) (hL : ∀ j ∈ L, j < e) (hl : ∀ i : Nat, i < e → u.a 25 i = s.a 25 i ∧ u.a 28 i = s.a 28 i) (h25 : u.a 25 e = v) (h28 : u.a 28 e = 0) : CSE R u f (L ++ [e]) := by
  obtain ⟨a1, a2, a3⟩ := h
  refine ⟨a1, by omega, fun w => ?_⟩
  constructor
  · intro ⟨i, i1, i2, i3⟩
    by_cases c : (i : Int) < (S.i 22).toInt
    · rw [ha i c] at i3
      obtain ⟨j, j1, j2, j3⟩ := (a3 w).mp ⟨i, i1, c, i3⟩
      refine ⟨j, List.mem_append_left _ j1, ?_, ?_⟩
      · rw [(hl j (hL j j1)).2]; exact j2
      · rw [(hl j (hL j j1)).1]; exact j3
    · have : i = (S.i 22).toInt.toNat := by omega
      rw [this, hv] at i3
      exact ⟨e, List.mem_append_right _ List.mem_cons_self, h28, by rw [h25]; exact i3⟩
  · intro ⟨j, j1, j2, j3⟩
    rcases List.mem_append.mp j1 with j1 | j1
    · rw [(hl j (hL j j1)).2] at j2
      rw [(hl j (hL j j1)).1] at j3
      obtain ⟨i, i1, i2, i3⟩ := (a3 w).mpr ⟨j, j1, j2, j3⟩
      exact ⟨i, i1, by omega, by rw [ha i i2]; exact i3⟩
    · rcases List.mem_cons.mp j1 with rfl | j1
      · rw [h25] at j3
        exact ⟨(S.i 22).toInt.toNat, by omega, by omega, by rw [hv]; exact j3⟩
      · exact absurd j1 List.not_mem_nil
end
section
/-! both readers: a number of a switch, behind its minus -/
theorem y_cn2 {N : Nat} (hN : 1000 ≤ N) {d : Int32} {S : CS} {s : RS} {R : Unit × CS} {Q : Int32 × RS} {t : Nat} {x f tgt v : Int32} {L : List Nat} (h : ENV d S s) (hx : x.toNatClampNeg = t) (hc : CSE S s f L) (hl : chn s (s.a 22 (s.a 66 t).toNatClampNeg) L) (hq : FQL s t L) (h3 : (S.i 22).toInt < 320) (c1 : S.i 43 = 1) (e : f_X1_caseNumber_44 N S f tgt v = some R) (g : f_X12_caseNumber_62 N s x v = some Q) : (Q.1 = 0 ∧ ¬ R.2.i 32 = 0 ∧ ¬ Q.2.i 15 = 0) ∨ (Q.1 = 1 ∧ CNR9 d t f L v S s R.2 Q.2 ∧ CNC tgt S s R.2 Q.2) := by
  have h15 := h.1.2.1
  have r4 := h.2.2.2.2.2.2.2.2.2.1
  unfold f_X1_caseNumber_44 at e
  unfold f_X12_caseNumber_62 at g
  obtain ⟨-, g⟩ := hf_ite g
  rw [hx] at g
  obtain ⟨ib6, g⟩ := hf_ite g
  obtain ⟨P, eP, e⟩ := hf_bind e
  obtain ⟨p1, p2⟩ := y_has N f P hc.1 (by omega) (show f_X0_hasCase_2 N N S v f = some P from eP)
  obtain ⟨q1, q2⟩ := y_75 N L s _ Q hl g
  rw [p1] at e
  rcases p2 with ⟨p0, pn⟩ | ⟨p0, py⟩
  · have no : ¬ ∃ j ∈ L, s.a 28 j = 0 ∧ s.a 25 j = v := fun z => pn ((hc.2.2 v).mpr z)
    have g2 := q2 h15 no
    rw [if_pos p0] at e
    obtain ⟨w, ew, e⟩ := hf_bind e
    obtain ⟨a, ea, e⟩ := hf_bind e
    cases e
    obtain ⟨y, gy, g2⟩ := hf_bind g2
    obtain ⟨u, gu, g2⟩ := hf_bind g2
    have en := y_entry hx gy
    have bz : vp_nar .boolean (0 : Int32) = 0 := by decide
    rw [bz] at en
    obtain ⟨k, k1, k2, k3, k4, k5, k6, k7, k8⟩ := en.chain hl hq
    obtain ⟨n1, n2, n3, n4, n5, n6, n7, n8, n9, n10', n26⟩ := id en
    unfold f_X0_addCase at ew
    cases ew
    -- the class behind the number
    obtain ⟨S1, hS1⟩ : ∃ T, T = CS.setI (CS.putA (CS.putA S 18 (gPut (S.a 18) 320 (S.i 22) v)) 19 (gPut (CS.a (CS.putA S 18 (gPut (S.a 18) 320 (S.i 22) v)) 19) 320 (S.i 22) tgt)) 22 ((S.i 22) + 1) := ⟨_, rfl⟩
    rw [← hS1] at ea
    have s22 : (S1.i 22).toInt = (S.i 22).toInt + 1 := by
      rw [hS1, ci_at]
      exact ad1 r4 (by omega)
    have ck := clampI r4
    have s18 : S1.a 18 = upd (S.a 18) (S.i 22).toNatClampNeg v := by
      rw [hS1]
      show gPut (S.a 18) 320 (S.i 22) v = _
      unfold gPut
      exact if_pos ⟨r4, by omega⟩
    have pS1 : pj S1 = pj S := by rw [hS1]; rfl
    have pc1 : S1.i 20 = S.i 20 ∧ S1.i 23 = S.i 23 ∧ S1.i 38 = S.i 38 ∧ S1.a 15 = S.a 15 ∧ S1.a 16 = S.a 16 ∧ S1.a 17 = S.a 17 := by
      rw [hS1]
      exact ⟨rfl, rfl, rfl, rfl, rfl, rfl⟩
    have s19 : S1.a 19 = upd (S.a 19) (S.i 22).toNatClampNeg tgt := by
      rw [hS1]
      show gPut (S.a 19) 320 (S.i 22) tgt = _
      unfold gPut
      exact if_pos ⟨r4, by omega⟩
    have t1 : S1.i 32 = S.i 32 ∧ S1.i 34 = S.i 34 ∧ S1.i 41 = S.i 41 ∧ S1.i 42 = S.i 42 ∧ S1.i 43 = S.i 43 ∧ S1.i 44 = S.i 44 ∧ S1.i 45 = S.i 45 ∧ S1.l = S.l ∧ S1.a 0 = S.a 0 ∧ S1.b = S.b := by
      rw [hS1]
      exact ⟨rfl, rfl, rfl, rfl, rfl, rfl, rfl, rfl, rfl, rfl⟩
    clear hS1
    obtain ⟨z32, z34, z41, z42, z43, z44, z45, zl, za0, zb⟩ := t1
    have bt1 : BT S1 y := by
      obtain ⟨h1, h2, ⟨t1, t2, t3, t4⟩, ⟨k1, k2, k3, k4, k5, k6⟩, h5, h6, h7, h8⟩ := h.1
      have y2 : y.i 2 = s.i 2 := n8 2 (by decide)
      have y10 : y.i 10 = s.i 10 := n8 10 (by decide)
      have y11 : y.i 11 = s.i 11 := n8 11 (by decide)
      have y12 : y.i 12 = s.i 12 := n8 12 (by decide)
      have y14 : y.i 14 = s.i 14 := n8 14 (by decide)
      have y15 : y.i 15 = s.i 15 := n8 15 (by decide)
      have ya1 : y.a 1 = s.a 1 := n7 1 (by decide) (by decide) (by decide) (by decide) (by decide) (by decide)
      refine ⟨by rw [z32]; exact h1, by rw [y15]; exact h2, ⟨by rw [z41, y2]; exact t1, by rw [y2]; exact t2, fun k hk => by rw [y2] at hk; rw [za0, ya1]; exact t3 k hk, fun k hk => by rw [zb, n9]; exact t4 k hk⟩, ⟨by rw [z44, y11]; exact k1, by rw [z42, y12]; exact k2, by rw [z43, y10]; exact k3, by rw [z43]; exact k4, fun q => by rw [z43] at q; rw [zl, n10']; exact k5 q, fun q => by rw [z43] at q; rw [z45, y14]; exact k6 q⟩, by rw [y12, y2]; exact h5, fun k hk => by rw [n9]; exact h6 k hk, ?_, ?_⟩
      · unfold LC AB BY at *
        rw [z41, z42, z43, z44, z45, zl, za0]
        exact h7
      · unfold WDC at *
        rw [zb]
        exact h8
    obtain ⟨ba, adv, tu, b9⟩ := y_adv hN bt1 ea gu
    unfold f_X12_caseNumber_140 at g2
    rw [if_pos ba.2.1] at g2
    cases g2
    have kc := kc_X9_advance N S1 a ea
    have uq : ∀ k : Nat, k ≠ 10 → k ≠ 11 → k ≠ 12 → k ≠ 14 → k ≠ 17 → u.i k = y.i k := fun k h1 h2 h3 h4 h5 => (tu.1 k h1 h2 h3 h4).trans (if_neg h5)
    have u17 : (u.i 17).toInt = (s.i 17).toInt + 1 := by
      have e1 : u.i 17 = y.i 17 + 1 := tu.1 17 (by decide) (by decide) (by decide) (by decide)
      rw [e1, n8 17 (by decide)]
      exact t17_up (N := N) h
    have lc := h.1.2.2.2.2.2.2.1.2.2.2.1 (by rw [c1]; decide)
    have k11 := h.1.2.2.2.1.1
    have k12 := h.1.2.2.2.1.2.1
    have y12 : y.i 12 = s.i 12 := n8 12 (by decide)
    rw [y12] at b9
    rw [k11, k12] at lc
    have f1 : (s.i 11).toInt + 1 ≤ (u.i 11).toInt := by omega
    have R22 : a.2.i 22 = S1.i 22 := adv.1.2 22 (by decide) (by decide) (by decide) (by decide)
    have R18 : a.2.a 18 = S1.a 18 := by rw [adv.1.1.2.2.2.2.2.2.2.2.2.2]
    have R34 : a.2.i 34 = S1.i 34 := adv.1.2 34 (by decide) (by decide) (by decide) (by decide)
    have ra : u.a = y.a := by rw [tu.2.1]; rfl
    have rb : u.b = y.b := by rw [tu.2.2]; rfl
    have a18 : ∀ i : Nat, (i : Int) < (S.i 22).toInt → a.2.a 18 i = S.a 18 i := fun i hi => by
      rw [R18, s18]
      exact if_neg (by omega)
    have a18v : a.2.a 18 (S.i 22).toInt.toNat = v := by
      rw [R18, s18]
      exact if_pos rfl
    have Lt : ∀ j ∈ L, j < k := fun j hj => by
      have := chn.lt L _ hl j hj
      omega
    have cnc : CNC tgt S s a.2 u := by
      obtain ⟨w20, w15, w16, w17, w23, w38, -, w19⟩ := pe_eq (ke_X9_advance N S1 a ea)
      have ck2 := clampI n2.1
      have ek : (s.i 24).toNatClampNeg = k := by omega
      refine ⟨⟨w20.trans pc1.1, w23.trans pc1.2.1, w38.trans pc1.2.2.1, w15.trans pc1.2.2.2.1, w16.trans pc1.2.2.2.2.1, w17.trans pc1.2.2.2.2.2⟩, fun i hi => ?_, ?_, k, k1, ?_, fun i hi => ?_⟩
      · rw [w19, s19]
        exact if_neg (by omega)
      · rw [w19, s19]
        exact if_pos (by omega)
      · rw [ra, n26, ek]
        exact if_pos rfl
      · rw [ra, n26, ek]
        exact if_neg (by omega)
    refine Or.inr ⟨rfl, ⟨k, k1, ?_, ?_, ?_, kc.trans pS1, by rw [R22]; exact s22, a18, a18v, pn, fun hcap => ?_, f1, u17, ?_, ?_, ?_, ?_, fun m h1 h2 h3 h4 h5 h6 => ?_, fun j hj => ?_, fun i hi => ?_, fun i hi hi2 => ?_, fun i hi => ?_, fun m h1 h2 h3 h4 h5 h6 => ?_, rb.trans n9, ?_⟩, cnc⟩
    · exact hc.add (by rw [R22]; exact s22) r4 a18 a18v Lt (fun i hi => by rw [ra]; exact k6 i hi) (by rw [ra]; exact k4) (by rw [ra]; exact k5)
    · rw [ra]
      exact chn.up (by rw [uq 24 (by decide) (by decide) (by decide) (by decide) (by decide)]; exact Int.le_refl _) (fun i _ => by rw [ra]) _ _ k2
    · have := k3
      unfold FQL at *
      rw [ra]
      exact this
    · refine h.re ba (kc.trans pS1) (R34.trans z34) ?_ ?_ ?_ ?_ ?_ ?_ ?_ ?_ ?_ u17 ?_ ?_ f1 ⟨by rw [R22]; omega, by rw [R22]; omega⟩ ?_ ?_ ?_
      · exact (uq 38 (by decide) (by decide) (by decide) (by decide) (by decide)).trans (n8 38 (by decide))
      · exact (uq 3 (by decide) (by decide) (by decide) (by decide) (by decide)).trans (n8 3 (by decide))
      · exact (uq 18 (by decide) (by decide) (by decide) (by decide) (by decide)).trans (n8 18 (by decide))
      · exact (uq 53 (by decide) (by decide) (by decide) (by decide) (by decide)).trans (n8 53 (by decide))
      · exact (uq 54 (by decide) (by decide) (by decide) (by decide) (by decide)).trans (n8 54 (by decide))
      · exact (uq 55 (by decide) (by decide) (by decide) (by decide) (by decide)).trans (n8 55 (by decide))
      · rw [ra]; exact n7 4 (by decide) (by decide) (by decide) (by decide) (by decide) (by decide)
      · rw [ra]; exact n7 41 (by decide) (by decide) (by decide) (by decide) (by decide) (by decide)
      · rw [rb, n9]
      · exact (uq 19 (by decide) (by decide) (by decide) (by decide) (by decide)).trans (n8 19 (by decide))
      · exact (uq 20 (by decide) (by decide) (by decide) (by decide) (by decide)).trans (n8 20 (by decide))
      · have g := ((ADV.gain bt1.2.2.2.2.2.2.1 adv).2.1 (by rw [z43, c1]; decide)).2
        have q : eI S1 = eI S := by
          unfold eI plI
          rw [z43, z44]
        show eI S ≤ eI a.2
        omega
      · exact h.wp.of (by rw [uq 43 (by decide) (by decide) (by decide) (by decide) (by decide), n8 43 (by decide)]; exact Int.le_refl _) ((uq 56 (by decide) (by decide) (by decide) (by decide) (by decide)).trans (n8 56 (by decide))) ((uq 59 (by decide) (by decide) (by decide) (by decide) (by decide)).trans (n8 59 (by decide))) ((uq 29 (by decide) (by decide) (by decide) (by decide) (by decide)).trans (n8 29 (by decide))) (by rw [ra]; exact n7 58 (by decide) (by decide) (by decide) (by decide) (by decide) (by decide)) (by rw [ra]; exact n7 62 (by decide) (by decide) (by decide) (by decide) (by decide) (by decide))
      · exact (h.lb.kd z42 z43 z44 z45 zb).adv hN bt1.2.2.2.2.2.2.1 bt1.2.2.2.2.2.2.2 (by rw [adv.1.1.2.2.2.2.2.2.2.2.2.1]) ea
    · exact (uq 20 (by decide) (by decide) (by decide) (by decide) (by decide)).trans (n8 20 (by decide))
    · exact (uq 19 (by decide) (by decide) (by decide) (by decide) (by decide)).trans (n8 19 (by decide))
    · exact (uq 63 (by decide) (by decide) (by decide) (by decide) (by decide)).trans (n8 63 (by decide))
    · rw [uq 24 (by decide) (by decide) (by decide) (by decide) (by decide), n1]
      exact ad1 n2.1 (by omega)
    · rw [ra]; exact n7 m h1 h2 h3 h4 h5 h6
    · rw [ra, n5]; exact if_neg hj
    · rw [ra]; exact k6 i hi
    · rw [ra]; exact k7 i hi hi2
    · rw [ra]; exact k8 i hi
    · rw [uq m h1 h2 h3 h4 h5]; exact n8 m h6
    · intro z
      rw [k11, k12] at z
      show (s.i 11).toInt + 1 < (u.i 11).toInt
      omega
  · have yes : ∃ j ∈ L, s.a 28 j = 0 ∧ s.a 25 j = v := (hc.2.2 v).mp py
    obtain ⟨r1, r2⟩ := q1 (Or.inr yes)
    rw [if_neg (by rw [p0]; decide)] at e
    obtain ⟨w, ew, e⟩ := hf_bind e
    cases e
    exact Or.inl ⟨r1, y_fail (by decide) ew, r2⟩
end
section
/-! both readers: a number of a switch, whole -/
def CNX9 (d : Int32) (t : Nat) (f : Int32) (L : List Nat) (S : CS) (s : RS) (R : CS) (u : RS) : Prop := ∃ (S1 : CS) (s1 : RS) (v : Int32), ENV d S1 s1 ∧ (s1.a = s.a ∧ s1.b = s.b ∧ (∀ k : Nat, k ≠ 10 → k ≠ 11 → k ≠ 12 → k ≠ 14 → k ≠ 17 → s1.i k = s.i k)) ∧ (pj S1 = pj S ∧ S1.i 22 = S.i 22 ∧ S1.a 18 = S.a 18) ∧ ((s.i 17).toInt ≤ (s1.i 17).toInt ∧ (s.i 11).toInt ≤ (s1.i 11).toInt) ∧ CNR9 d t f L v S1 s1 R u ∧ ((s.i 11).toInt + 1 < (u.i 11).toInt ∨ (0 ≤ v.toInt ∧ v.toInt ≤ 9))
theorem y_caseNumber {N : Nat} (hN : 1000 ≤ N) {d : Int32} {S : CS} {s : RS} {R : Unit × CS} {Q : Int32 × RS} {t : Nat} {x f tgt : Int32} {L : List Nat} (h : ENV d S s) (hx : x.toNatClampNeg = t) (hc : CSE S s f L) (hl : chn s (s.a 22 (s.a 66 t).toNatClampNeg) L) (hq : FQL s t L) (h3 : (S.i 22).toInt < 320) (e : f_X1_caseNumber N S f tgt = some R) (g : f_X12_caseNumber N s x = some Q) : (Q.1 = 0 ∧ ¬ R.2.i 32 = 0 ∧ ¬ Q.2.i 15 = 0) ∨ (Q.1 = 1 ∧ CNX9 d t f L S s R.2 Q.2 ∧ CNC tgt S s R.2 Q.2) := by
  have i45 := tk_is h (a := 45) (b := 45) (Or.inl ⟨by decide, by decide⟩) (by decide)
  have core : ∀ (S1 : CS) (s1 : RS) (mi : Int32), ENV d S1 s1 → s1.a = s.a → s1.b = s.b → (∀ k : Nat, k ≠ 10 → k ≠ 11 → k ≠ 12 → k ≠ 14 → k ≠ 17 → s1.i k = s.i k) → pj S1 = pj S → S1.i 22 = S.i 22 → S1.a 18 = S.a 18 → pe S1 = pe S → (s.i 17).toInt ≤ (s1.i 17).toInt → (s.i 11).toInt ≤ (s1.i 11).toInt → (mi = 0 ∨ (s.i 11).toInt + 1 ≤ (s1.i 11).toInt) → ((f_X1_found N S1 1).bind fun p5 => (if p5.1 = 0 then (f_X1_misplaced N p5.2).bind fun p28 => some ((), p28.2) else (if mi = 0 then f_X1_caseNumber_44 N p5.2 f tgt (p5.2.i 45) else f_X1_caseNumber_44 N p5.2 f tgt (-(p5.2.i 45))))) = some R → f_X12_caseNumber_23 N s1 x mi = some Q → (Q.1 = 0 ∧ ¬ R.2.i 32 = 0 ∧ ¬ Q.2.i 15 = 0) ∨ (Q.1 = 1 ∧ CNX9 d t f L S s R.2 Q.2 ∧ CNC tgt S s R.2 Q.2) := by
    intro S1 s1 mi h1 ea eb ei ep e22 e18 epe b17 b11 bm e g
    have i1 := tk_is h1 (a := 1) (b := 1) (Or.inl ⟨by decide, by decide⟩) (by decide)
    have h15 := h1.1.2.1
    unfold f_X12_caseNumber_23 at g
    by_cases c : S1.i 43 = 1
    · have k := i1.mp c
      rw [e_fnd1 c, ob_some, if_neg n10] at e
      rw [if_pos k, y_can1 h15 (by rw [k]; decide), ob_some, if_neg n10] at g
      unfold f_X12_caseNumber_45 at g
      have hc1 : CSE S1 s1 f L := by
        unfold CSE at *
        rw [e22, e18, ea]
        exact hc
      have hl1 : chn s1 (s1.a 22 (s1.a 66 t).toNatClampNeg) L := by
        rw [ea]
        exact chn.up (by rw [ei 24 (by decide) (by decide) (by decide) (by decide) (by decide)]; exact Int.le_refl _) (fun i _ => by rw [ea]) _ _ hl
      have hq1 : FQL s1 t L := by
        unfold FQL at *
        rw [ea]
        exact hq
      have h31 : (S1.i 22).toInt < 320 := by rw [e22]; exact h3
      have lc := h1.1.2.2.2.2.2.2.1
      have lc4 := lc.2.2.2.1 (by rw [c]; decide)
      have lc9 := lc.2.2.2.2.2.2.2.2 c
      have v14 : S1.i 45 = s1.i 14 := h1.1.2.2.2.1.2.2.2.2.2 (Or.inl c)
      have fin : ∀ v : Int32, (mi = 0 → v = S1.i 45) → f_X1_caseNumber_44 N S1 f tgt v = some R → f_X12_caseNumber_62 N s1 x v = some Q → (Q.1 = 0 ∧ ¬ R.2.i 32 = 0 ∧ ¬ Q.2.i 15 = 0) ∨ (Q.1 = 1 ∧ CNX9 d t f L S s R.2 Q.2 ∧ CNC tgt S s R.2 Q.2) := fun v hv e g => by
        rcases y_cn2 hN h1 hx hc1 hl1 hq1 h31 c e g with z | ⟨z1, z2, zc⟩
        · exact Or.inl z
        · have z3 := z2
          obtain ⟨_, _, _, _, _, _, _, _, _, _, _, f1, _, _, _, _, _, _, _, _, _, _, _, _, ln⟩ := z3
          refine Or.inr ⟨z1, ⟨S1, s1, v, h1, ⟨ea, eb, ei⟩, ⟨ep, e22, e18⟩, ⟨b17, b11⟩, z2, ?_⟩, ?_⟩
          rotate_left
          · obtain ⟨p20, p15, p16, p17, p23, p38, p22, p19⟩ := pe_eq epe
            obtain ⟨⟨c1, c2, c3, c4, c5, c6⟩, c7, c8, e9, c9, c10, c11⟩ := zc
            rw [e22] at c7 c8
            rw [ei 24 (by decide) (by decide) (by decide) (by decide) (by decide)] at c9
            rw [ei 20 (by decide) (by decide) (by decide) (by decide) (by decide)] at c10
            exact ⟨⟨c1.trans p20, c2.trans p23, c3.trans p38, c4.trans p15, c5.trans p16, c6.trans p17⟩, fun i hi => (c7 i hi).trans (by rw [p19]), c8, e9, c9, c10, fun i hi => (c11 i hi).trans (by rw [ea])⟩
          by_cases m0 : mi = 0
          · by_cases q : (S1.i 42).toInt = (S1.i 44).toInt + 1
            · exact Or.inr (by rw [hv m0]; exact lc9 q)
            · refine Or.inl ?_
              have := ln (by omega)
              omega
          · refine Or.inl ?_
            have := bm.resolve_left m0
            omega
      by_cases m0 : mi = 0
      · rw [if_pos m0] at e g
        rw [← v14] at g
        exact fin _ (fun _ => rfl) e g
      · rw [if_neg m0] at e g
        rw [← v14] at g
        exact fin _ (fun q => absurd q m0) e g
    · have k : ¬ s1.i 10 = 1 := fun q => c (i1.mpr q)
      rw [e_fnd0 c, ob_some, if_pos rfl] at e
      rw [if_neg k] at g
      obtain ⟨p, ep', e⟩ := hf_bind e
      cases e
      obtain ⟨q, gq, g⟩ := hf_bind g
      obtain ⟨q1, q2⟩ := y_can0 gq
      rw [if_pos q1] at g
      unfold f_X12_caseNumber_43 at g
      cases g
      exact Or.inl ⟨rfl, y_misp ep', q2⟩
  unfold f_X1_caseNumber f_X1_skip at e
  unfold f_X12_caseNumber f_X12_caseNumber_15 at g
  obtain ⟨p, ep, e⟩ := hf_bind e
  by_cases c : S.i 43 = 45
  · have k := i45.mp c
    rw [if_pos k, if_neg n10] at g
    rw [e_fnd1 c, ob_some, if_neg n10] at ep
    obtain ⟨a, ea, ep⟩ := hf_bind ep
    unfold f_X1_skip_17 at ep
    cases ep
    obtain ⟨u, gu, g⟩ := hf_bind g
    obtain ⟨w1, w2, w3, w4, w5, w6, w7, w8, w9, w10⟩ := h.adv hN (by rw [c]; decide) ea gu
    obtain ⟨ba, adv, tu, b9⟩ := y_adv hN h.1 ea gu
    refine core a.2 u 1 w1 (by rw [tu.2.1]; rfl) (by rw [tu.2.2]; rfl) (fun k h1 h2 h3 h4 h5 => (tu.1 k h1 h2 h3 h4).trans (if_neg h5)) w3 w8 w9.1 (ke_X9_advance N S a ea) ?_ (by omega) (Or.inr w5) e g
    rw [w4, t17_up (N := N) h]
    omega
  · have k : ¬ s.i 10 = 45 := fun q => c (i45.mpr q)
    rw [if_neg k, if_pos rfl] at g
    rw [e_fnd0 c, ob_some, if_pos rfl] at ep
    unfold f_X1_skip_17 at ep
    cases ep
    exact core S s 0 h rfl rfl (fun _ _ _ _ _ _ => rfl) rfl rfl rfl rfl (Int.le_refl _) (Int.le_refl _) (Or.inl rfl) e g
end
section
/-! both readers: numbers and bytes -/
theorem CNX9.b11 {d : Int32} {t : Nat} {f : Int32} {L : List Nat} {S R : CS} {s u : RS} (h : CNX9 d t f L S s R u) : (s.i 11).toInt ≤ (u.i 11).toInt := by
  obtain ⟨S1, s1, v, h1, -, -, ⟨-, b11⟩, ⟨e, -, -, -, -, -, -, -, -, -, -, f1, -⟩, ln⟩ := h
  omega
theorem CNX9.qpj {d : Int32} {t : Nat} {f : Int32} {L : List Nat} {S R : CS} {s u : RS} (h : CNX9 d t f L S s R u) : pj R = pj S := by
  obtain ⟨S1, s1, v, h1, -, ⟨ep, -, -⟩, -, ⟨e, -, -, -, -, q5, -⟩, ln⟩ := h
  exact q5.trans ep
theorem CNX9.kd {d : Int32} {t : Nat} {f : Int32} {L : List Nat} {S R : CS} {s u : RS} (h : CNX9 d t f L S s R u) (h0 : 0 ≤ (S.i 22).toInt) (hf : f.toInt ≤ (S.i 22).toInt) (hk : 3 * (S.i 22).toInt + 11 ≤ (s.i 11).toInt + KD S f.toInt (S.i 22).toInt) : ENV d R u ∧ (R.i 22).toInt = (S.i 22).toInt + 1 ∧ 3 * (R.i 22).toInt + 10 ≤ (u.i 11).toInt + KD R f.toInt (R.i 22).toInt := by
  obtain ⟨S1, s1, v, h1, -, ⟨-, e22, e18⟩, ⟨-, b11⟩, ⟨e, -, -, -, -, -, q6, q7, q8, q9, q10, f1, -⟩, ln⟩ := h
  have k0 : KD S1 f.toInt (S.i 22).toInt = KD S f.toInt (S.i 22).toInt := KD.eq (fun i _ => by rw [e18])
  rw [e22] at q6 q7 q8 q9 q10
  have ku : KD S1 f.toInt (S.i 22).toInt ≤ KD R f.toInt ((S.i 22).toInt + 1) := KD.up q7
  have kl := KD.le R f.toInt ((S.i 22).toInt + 1)
  have kk : 3 * ((S.i 22).toInt + 1) + 10 ≤ (u.i 11).toInt + KD R f.toInt ((S.i 22).toInt + 1) := by
    rcases ln with z | z
    · omega
    · have ko : KD R f.toInt ((S.i 22).toInt + 1) = KD S1 f.toInt (S.i 22).toInt + 1 := KD.one h0 hf q7 (by rw [q8]; exact z) (fun i i1 i2 i3 => q9 ⟨i, i1, i2, by rw [i3, q8]⟩)
      omega
  exact ⟨q10 (by omega), q6, by rw [q6]; exact kk⟩
end
section
/-! both readers: what the numbers of a choice keep -/
theorem CKX.of2 {S R : CS} (h : pj R = pj S) (e22 : R.i 22 = S.i 22) (e18 : ∀ k : Nat, (k : Int) < (S.i 22).toInt → R.a 18 k = S.a 18 k) (h44 : (S.i 44).toInt ≤ (R.i 44).toInt) : CKX S R := by
  obtain ⟨-, -, -, -, -, -, -, -, -, -, i36, -, i38, i50, i53, i54, i55, i56, -, -, -, -, a52, er, eo, eol, -⟩ := pj_eq h
  refine ⟨⟨e22, i36, i38, i50, i53, i56⟩, fun k _ => by rw [er], fun k a _ _ => ⟨by rw [eo], by rw [eol]⟩, e18, by rw [i54]; exact Int.le_refl _, by rw [i55]; exact Int.le_refl _, fun k _ => by rw [a52], fun k h1 h2 => ?_, by rw [pj_21 h]; omega, by rw [i54]; omega, by rw [i55]; omega⟩
  rw [i55] at h2
  omega
/-- since S0, cases aside -/
def CKN (S0 R : CS) : Prop := CKX S0 (CS.setI R 22 (S0.i 22)) ∧ (S0.i 22).toInt ≤ (R.i 22).toInt
theorem CKN.rf (S : CS) : CKN S S := ⟨CKX.of2 rfl (ci_at _ _ _) (fun _ _ => rfl) (Int.le_refl _), Int.le_refl _⟩
theorem CKN.num {S0 S R : CS} (h : CKN S0 S) (hp : pj R = pj S) (h22 : (S.i 22).toInt ≤ (R.i 22).toInt) (h18 : ∀ k : Nat, (k : Int) < (S.i 22).toInt → R.a 18 k = S.a 18 k) (h44 : (S.i 44).toInt ≤ (R.i 44).toInt) : CKN S0 R := by
  obtain ⟨h, h0⟩ := h
  refine ⟨h.tr (CKX.of2 (show pj R = pj S from hp) ((ci_at _ _ _).trans (ci_at _ _ _).symm) (fun k hk => ?_) h44), by omega⟩
  rw [ci_at] at hk
  exact h18 k (by omega)
theorem CKN.exp {S0 S R : CS} (h : CKN S0 S) (g : CKX S R) : CKN S0 R := by
  obtain ⟨⟨⟨-, a2, a3, a4, a5, a6⟩, b1, b2, b3, b4, b5, b6, b7, b8, b9, b10⟩, h0⟩ := h
  obtain ⟨⟨c1, c2, c3, c4, c5, c6⟩, d1, d2, d3, d4, d5, d6, d7, d8, d9, d10⟩ := g
  have a2 : S.i 36 = S0.i 36 := a2
  have a3 : S.i 38 = S0.i 38 := a3
  have a4 : S.i 50 = S0.i 50 := a4
  have a5 : S.i 53 = S0.i 53 := a5
  have a6 : S.i 56 = S0.i 56 := a6
  have b1 : ∀ k : Nat, (k : Int) < (S0.i 53).toInt → S.r 51 k = S0.r 51 k := b1
  have b2 : ∀ k a : Nat, (k : Int) < (S0.i 53).toInt → S0.r 51 k = some a → S.o a = S0.o a ∧ S.ol a = S0.ol a := b2
  have b3 : ∀ k : Nat, (k : Int) < (S0.i 22).toInt → S.a 18 k = S0.a 18 k := b3
  have b4 : (S0.i 54).toInt ≤ (S.i 54).toInt := b4
  have b5 : (S0.i 55).toInt ≤ (S.i 55).toInt := b5
  have b6 : ∀ k : Nat, (k : Int) < (S0.i 55).toInt → S.a 52 k = S0.a 52 k := b6
  have b7 : ∀ k : Nat, (S0.i 55).toInt ≤ (k : Int) → (k : Int) < (S.i 55).toInt → S.a 52 k = 0 ∨ (2 * (S0.i 54).toInt + 1 < (S.a 52 k).toInt ∧ (S.a 52 k).toInt ≤ 2 * (S.i 54).toInt + 1) := b7
  have b8 : (S.i 21).toInt + 2 * (S0.i 44).toInt ≤ (S0.i 21).toInt + 2 * (S.i 44).toInt := b8
  have b9 : (S.i 54).toInt + (S0.i 44).toInt ≤ (S0.i 54).toInt + (S.i 44).toInt := b9
  have b10 : 6 * (S.i 55).toInt + (S0.i 44).toInt ≤ 6 * (S0.i 55).toInt + (S.i 44).toInt := b10
  refine ⟨⟨⟨ci_at _ _ _, c2.trans a2, c3.trans a3, c4.trans a4, c5.trans a5, c6.trans a6⟩, fun k hk => ?_, fun k a hk ha => ?_, fun k hk => ?_, Int.le_trans b4 d4, Int.le_trans b5 d5, fun k hk => ?_, fun k h1 h2 => ?_, (show (R.i 21).toInt + 2 * (S0.i 44).toInt ≤ (S0.i 21).toInt + 2 * (R.i 44).toInt by omega), (show (R.i 54).toInt + (S0.i 44).toInt ≤ (S0.i 54).toInt + (R.i 44).toInt by omega), (show 6 * (R.i 55).toInt + (S0.i 44).toInt ≤ 6 * (S0.i 55).toInt + (R.i 44).toInt by omega)⟩, by rw [c1]; exact h0⟩
  · exact (d1 k (by rw [a5]; exact hk)).trans (b1 k hk)
  · have e := b2 k a hk ha
    have f := d2 k a (by rw [a5]; exact hk) ((b1 k hk).trans ha)
    exact ⟨f.1.trans e.1, f.2.trans e.2⟩
  · exact (d3 k (by omega)).trans (b3 k hk)
  · exact (d6 k (by omega)).trans (b6 k hk)
  · have h2 : (k : Int) < (R.i 55).toInt := h2
    show R.a 52 k = 0 ∨ (2 * (S0.i 54).toInt + 1 < (R.a 52 k).toInt ∧ (R.a 52 k).toInt ≤ 2 * (R.i 54).toInt + 1)
    by_cases c : (k : Int) < (S.i 55).toInt
    · rw [d6 k c]
      rcases b7 k h1 c with z | z
      · exact Or.inl z
      · exact Or.inr ⟨z.1, by omega⟩
    · rcases d7 k (by omega) h2 with z | z
      · exact Or.inl z
      · exact Or.inr ⟨by omega, z.2⟩
theorem CKN.sum {S0 S : CS} (h : CKN S0 S) (w : RWI S0) : SGS S (cnI S).toNat = SGS S0 (cnI S0).toNat ∧ WCS S (cnI S).toNat = WCS S0 (cnI S0).toNat := by
  have h0 := w.2.2.2.1
  refine sum_eq h0.2 (fun i hi => ?_) (show S.i 53 = S0.i 53 from h.1.1.2.2.2.2.1)
  have hi' : (i : Int) < (S0.i 53).toInt := by
    have : cnI S0 = (S0.i 53).toInt := rfl
    omega
  exact ⟨(show S.r 51 i = S0.r 51 i from h.1.2.1 i hi'), fun a ha => (show S.o a = S0.o a ∧ S.ol a = S0.ol a from h.1.2.2.1 i a hi' ha)⟩
/-- tables kept, code kept below c -/
def TBC (c : Int) (s u : RS) : Prop := TBZ s u ∧ CDK c s u
/-- the reference, over a number -/
theorem CNX9.fr {d : Int32} {t : Nat} {f : Int32} {L : List Nat} {S R S0 : CS} {s u s0 : RS} {c : Int} (h : CNX9 d t f L S s R u) (hK : CKN S0 S) (hT : TBC c s0 s) (hL : ∀ j ∈ L, (s0.i 24).toInt ≤ (j : Int)) (h66 : c ≤ (s.a 66 t).toInt) (h44 : (S.i 44).toInt ≤ (R.i 44).toInt) : CKN S0 R ∧ TBC c s0 u ∧ FRB t s u ∧ u.i 63 = s.i 63 ∧ u.i 19 = s.i 19 ∧ phI s + 3 ≤ phI u ∧ (s.i 17).toInt + 1 ≤ (u.i 17).toInt ∧ (s.i 11).toInt + 1 ≤ (u.i 11).toInt ∧ (∀ k : Nat, k ≠ 22 → k ≠ 25 → k ≠ 26 → k ≠ 27 → k ≠ 28 → k ≠ 67 → u.a k = s.a k) ∧ (∀ k : Nat, k ≠ 10 → k ≠ 11 → k ≠ 12 → k ≠ 14 → k ≠ 17 → k ≠ 24 → u.i k = s.i k) ∧ u.b = s.b ∧ ∃ e : Nat, CSE R u f (L ++ [e]) ∧ chn u (u.a 22 (u.a 66 t).toNatClampNeg) (L ++ [e]) ∧ FQL u t (L ++ [e]) ∧ (∀ j ∈ L ++ [e], (s0.i 24).toInt ≤ (j : Int)) := by
  obtain ⟨S1, s1, v, h1, ⟨ea, eb, ei⟩, ⟨ep, e22, e18⟩, ⟨b17, b11⟩, ⟨e, q1, q2, q3, q4, q5, q6, q7, q8, q9, q10, f1, f17, f20, f19, f63, f24, fa, f67, f25, f27, f22, fi, fb⟩, ln⟩ := h
  have ui : ∀ k : Nat, k ≠ 10 → k ≠ 11 → k ≠ 12 → k ≠ 14 → k ≠ 17 → k ≠ 24 → u.i k = s.i k := fun k a b c' d e f => (fi k a b c' d e f).trans (ei k a b c' d e)
  have ua : ∀ k : Nat, k ≠ 22 → k ≠ 25 → k ≠ 26 → k ≠ 27 → k ≠ 28 → k ≠ 67 → u.a k = s.a k := fun k a b c' d e f => (fa k a b c' d e f).trans (by rw [ea])
  have ub : u.b = s.b := fb.1.trans eb
  have e24 : s1.i 24 = s.i 24 := ei 24 (by decide) (by decide) (by decide) (by decide) (by decide)
  obtain ⟨⟨⟨t1, t2, t3, t4, t5, t6, t7, t8, t9, t10⟩, n, g43, g56, ⟨l59, m59⟩, b59, l29, m29, l33, m33, l24, m24⟩, l20, m20⟩ := hT
  have le : (s0.i 24).toInt ≤ (e : Int) := by
    rw [← q1, e24]
    exact l24
  have u20 : u.i 20 = s.i 20 := ui 20 (by decide) (by decide) (by decide) (by decide) (by decide) (by decide)
  refine ⟨hK.num (q5.trans ep) (by rw [q6, e22]; omega) (fun k hk => ?_) h44, ⟨⟨⟨(ui 2 (by decide) (by decide) (by decide) (by decide) (by decide) (by decide)).trans t1, (ui 3 (by decide) (by decide) (by decide) (by decide) (by decide) (by decide)).trans t2, (ui 8 (by decide) (by decide) (by decide) (by decide) (by decide) (by decide)).trans t3, (ui 38 (by decide) (by decide) (by decide) (by decide) (by decide) (by decide)).trans t4, (ui 43 (by decide) (by decide) (by decide) (by decide) (by decide) (by decide)).trans t5, (ui 2 (by decide) (by decide) (by decide) (by decide) (by decide) (by decide)).trans t6, (ui 56 (by decide) (by decide) (by decide) (by decide) (by decide) (by decide)).trans t7, (ua 1 (by decide) (by decide) (by decide) (by decide) (by decide) (by decide)).trans t8, (ua 4 (by decide) (by decide) (by decide) (by decide) (by decide) (by decide)).trans t9, by rw [ub]; exact t10⟩, fun j hj => ?_, fun j hj => ?_, fun j hj => ?_, ⟨?_, fun j k1 k2 => ?_⟩, fun j hj => ?_, ?_, fun j hj => ?_, ?_, fun j hj => ?_, ?_, fun j hj => ?_⟩, ?_, fun j hj => ?_⟩, fun j hj => ?_, ui 63 (by decide) (by decide) (by decide) (by decide) (by decide) (by decide), ui 19 (by decide) (by decide) (by decide) (by decide) (by decide) (by decide), ?_, by omega, by omega, ua, ui, ub, e, q2, q3, q4, fun j hj => ?_⟩
  · rw [q7 k (by rw [e22]; exact hk), e18]
  · rw [ub, ua 40 (by decide) (by decide) (by decide) (by decide) (by decide) (by decide), ua 41 (by decide) (by decide) (by decide) (by decide) (by decide) (by decide)]
    exact n j hj
  · rw [ub, ua 44 (by decide) (by decide) (by decide) (by decide) (by decide) (by decide), ua 46 (by decide) (by decide) (by decide) (by decide) (by decide) (by decide), ua 47 (by decide) (by decide) (by decide) (by decide) (by decide) (by decide), ua 50 (by decide) (by decide) (by decide) (by decide) (by decide) (by decide), ua 51 (by decide) (by decide) (by decide) (by decide) (by decide) (by decide), ua 48 (by decide) (by decide) (by decide) (by decide) (by decide) (by decide), ua 49 (by decide) (by decide) (by decide) (by decide) (by decide) (by decide)]
    exact g43 j hj
  · rw [ua 57 (by decide) (by decide) (by decide) (by decide) (by decide) (by decide), ua 58 (by decide) (by decide) (by decide) (by decide) (by decide) (by decide)]
    exact g56 j hj
  · rw [ui 59 (by decide) (by decide) (by decide) (by decide) (by decide) (by decide)]
    exact l59
  · rw [ui 59 (by decide) (by decide) (by decide) (by decide) (by decide) (by decide)] at k2
    rw [ua 62 (by decide) (by decide) (by decide) (by decide) (by decide) (by decide)]
    exact m59 j k1 k2
  · rw [ua 60 (by decide) (by decide) (by decide) (by decide) (by decide) (by decide), ua 61 (by decide) (by decide) (by decide) (by decide) (by decide) (by decide), ua 62 (by decide) (by decide) (by decide) (by decide) (by decide) (by decide)]
    exact b59 j hj
  · rw [ui 29 (by decide) (by decide) (by decide) (by decide) (by decide) (by decide)]
    exact l29
  · rw [ua 30 (by decide) (by decide) (by decide) (by decide) (by decide) (by decide)]
    exact m29 j hj
  · rw [ui 33 (by decide) (by decide) (by decide) (by decide) (by decide) (by decide)]
    exact l33
  · rw [ua 34 (by decide) (by decide) (by decide) (by decide) (by decide) (by decide), ua 37 (by decide) (by decide) (by decide) (by decide) (by decide) (by decide)]
    exact m33 j hj
  · rw [f24, e24]
    omega
  · have a := f25 j (by omega)
    have b := f27 j (by omega) (fun z => by have := hL j z; omega)
    rw [ea] at a b
    rw [a.1, a.2, b]
    exact m24 j hj
  · rw [u20]
    exact l20
  · rw [f22 j (by rw [ea]; intro z; have : ((s.a 66 t).toNatClampNeg : Int) = (s.a 66 t).toInt := clampI (by omega); omega), ea]
    exact m20 j hj
  · exact ⟨by rw [ua 64 (by decide) (by decide) (by decide) (by decide) (by decide) (by decide)], by rw [ua 65 (by decide) (by decide) (by decide) (by decide) (by decide) (by decide)], by rw [ua 66 (by decide) (by decide) (by decide) (by decide) (by decide) (by decide)], (f67 j (by omega)).trans (by rw [ea]), by rw [ua 68 (by decide) (by decide) (by decide) (by decide) (by decide) (by decide)], by rw [ua 69 (by decide) (by decide) (by decide) (by decide) (by decide) (by decide)], by rw [ua 70 (by decide) (by decide) (by decide) (by decide) (by decide) (by decide)], by rw [ua 71 (by decide) (by decide) (by decide) (by decide) (by decide) (by decide)], by rw [ua 72 (by decide) (by decide) (by decide) (by decide) (by decide) (by decide)], by rw [ua 73 (by decide) (by decide) (by decide) (by decide) (by decide) (by decide)], by rw [ub]⟩
  · unfold phI
    rw [u20]
    omega
  · rcases List.mem_append.mp hj with z | z
    · exact hL j z
    · rcases List.mem_cons.mp z with rfl | z
      · exact le
      · exact absurd z List.not_mem_nil
end
