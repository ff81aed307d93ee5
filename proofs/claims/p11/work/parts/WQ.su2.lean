/-! both readers: sums and products -/
/-- the class's instruction for a sign -/
def OPT (c o : Int32) : Prop := (c = 42 ∧ o = 9) ∨ (c = 47 ∧ o = 10) ∨ (c = 37 ∧ o = 11) ∨ (c = 43 ∧ o = 7) ∨ (c = 45 ∧ o = 8)
def XOP (o v : Int32) : Prop := AOP o v ∨ DOP o v
theorem opt_tk {S : CS} {s : RS} {o : Int32} (h : TKR S s) (q : OPT (S.i 43) o) : XOP o (s.i 10) := by
  rcases q with ⟨a, b⟩ | ⟨a, b⟩ | ⟨a, b⟩ | ⟨a, b⟩ | ⟨a, b⟩
  · exact Or.inl (Or.inr (Or.inr ⟨b, (h.is (c := 42) (d := 42) (Or.inl ⟨by decide, by decide⟩) (by decide)).mp a⟩))
  · exact Or.inr (Or.inl ⟨b, (h.is (c := 47) (d := 47) (Or.inl ⟨by decide, by decide⟩) (by decide)).mp a⟩)
  · exact Or.inr (Or.inr ⟨b, (h.is (c := 37) (d := 37) (Or.inl ⟨by decide, by decide⟩) (by decide)).mp a⟩)
  · exact Or.inl (Or.inl ⟨b, (h.is (c := 43) (d := 43) (Or.inl ⟨by decide, by decide⟩) (by decide)).mp a⟩)
  · exact Or.inl (Or.inr (Or.inl ⟨b, (h.is (c := 45) (d := 45) (Or.inl ⟨by decide, by decide⟩) (by decide)).mp a⟩))
theorem gs_xop {FC : Nat → Prop} {s0 : CS} {r0 : RS} {nm : Nat → Nat → Prop} {X : Als} {p q h w g W : Nat} {c : List Ent} (pq : PQX s0 r0 p q) (k : HC0 nm h c) (e1 : XOP (s0.a 15 p) (r0.a 22 q)) (e2 : r0.a 21 q = 8) (ty : TYC s0 r0 (GU FC s0 r0 nm X) W c) (hW : W + 1 ≤ w) (z : GU FC s0 r0 nm X (p + 1) (q + 1) (h + 1) w 0 c) : GU FC s0 r0 nm X p q (h + 1 + 1) (w + 1) g c := by
  rcases e1 with e1 | e1
  · exact gs_ari pq k e1 e2 z
  · exact gs_div pq k e1 e2 ty hW z
/-- the loop's code: with state 2 the reference has yet to lay the sign's instruction -/
def LC2 (t : Nat) (U : RS) (S : CS) (s : RS) (R : CS) (u : RS) : Prop := ∃ Ψ : GPS, SAT Ψ S s R u ∧ ∀ (FC : Nat → Prop) (SF : CS) (nm : Nat → Nat → Prop) (X : Als) (c : List Ent) (h w W g0 P0 : Nat), Ψ FC nm → pcC S = P0 + 1 → XOP (SF.a 15 P0) (s.a 66 t) → P0 < 1200 → FGC S R SF → FGR s u U → NMG nm c S s → HC0 nm h c → ((2 * h + 3 + msr c : Nat) : Int) ≤ (s.i 11).toInt → TYC SF U (GU FC SF U nm X) W c → W + 1 ≤ w → GU FC SF U nm X (pcC R) (pcR u) (h + 1) w 0 c → GU FC SF U nm X P0 (pcR s) (h + 1 + 1) (w + (pcC R - pcC S) + 1) g0 c
def LCD (t : Nat) (U : RS) (S : CS) (s : RS) (R : CS) (u : RS) : Prop := CRB S → CD1 0 0 S R ∧ CT7 0 (S.i 21).toInt S R ∧ CD2 (s.i 20).toInt s u ∧ (s.a 65 t = 1 → RNY 1 1 (fun g => g = 0) 0 U S s R u) ∧ (s.a 65 t = 2 → LC2 t U S s R u)
/-- a loop of the class over parts, one turn -/
def LPA (N : Nat) (ops : Int32 → Prop) (E : CS → Option (Unit × CS)) (L : Nat → CS → Int32 → Option (Unit × CS)) : Prop := (∀ S x, L 0 S x = none) ∧ (∀ n S x R, L (n + 1) S x = some R → (((900 : Int32) ≤ x ∨ ¬ ops (S.i 43)) ∧ R = ((), S)) ∨ (¬ (900 : Int32) ≤ x ∧ ops (S.i 43) ∧ ∃ (o : Int32) (p q w : Unit × CS), f_X9_advance N S = some p ∧ E p.2 = some q ∧ f_X0_add N q.2 o 0 = some w ∧ L n w.2 (x + 1) = some R ∧ OPT (S.i 43) o)) ∧ (∀ n S x R, L n S x = some R → ¬ S.i 32 = 0 → ¬ R.2.i 32 = 0)
theorem fst_add {N : Nat} {S : CS} {o x : Int32} {R : Unit × CS} (e : f_X0_add N S o x = some R) : R.2.i 32 = S.i 32 := (pj2_eq (kd_X0_add N S o x R e)).2.1
/-- no sign of a byte stands behind the 900th -/
theorem no_900 {d : Int32} {S : CS} {s : RS} {x : Int32} (h : ENV d S s) (hx : x.toInt ≤ (s.i 11).toInt) (h9 : (900 : Int32) ≤ x) : S.i 43 = 0 := by
  have e9 : (900 : Int32).toInt = 900 := by decide
  have l := le_int h9
  obtain ⟨h1, -⟩ := h
  have lc := h1.2.2.2.2.2.2.1
  have k11 := h1.2.2.2.1.1
  by_cases c : S.i 43 = 0
  · exact c
  · have q := lc.2.2.2.1 c
    have q2 := lc.2.1
    have q3 := lc.1
    rw [k11] at q q2
    omega
theorem sx_loop {N : Nat} (hN : 1000 ≤ N) {K K2 : Int32} {ops : Int32 → Prop} {opr : Int32 → Prop} {E : CS → Option (Unit × CS)} {L : Nat → CS → Int32 → Option (Unit × CS)} (hE : SXR N K2 E) (hFE : ∀ S R, E S = some R → ¬ S.i 32 = 0 → ¬ R.2.i 32 = 0) (hL : LPA N ops E L) (h0 : ¬ ops 0) (hop : ∀ (S : CS) (s : RS), TKR S s → (ops (S.i 43) ↔ opr (s.i 10)))
    (hK : ∀ (n : Nat) (s U : RS) (t : Nat), f_X12_parse_10 N n s = some U → tpI s = t → s.i 15 = 0 → s.a 64 t = K → ∃ (m : Nat) (V : RS), ((opr (s.i 10) ∧ f_X12_sums N s (s.i 63) K2 1 = some V) ∨ (¬ opr (s.i 10) ∧ f_X12_sums N s (s.i 63) K2 0 = some V)) ∧ f_X12_parse_10 N m V = some U) :
    ∀ (n1 n t : Nat) (d x : Int32) (S : CS) (s U : RS) (R : Unit × CS) (φ : Int), ENV d S s → tpI s = t → s.a 64 t = K → (s.a 65 t = 1 ∨ s.a 65 t = 2) → (s.a 65 t = 1 → φ ≤ phI s) → (s.a 65 t = 2 → φ + 1 ≤ phI s) → 0 ≤ φ → 0 ≤ x.toInt → x.toInt ≤ (s.i 11).toInt → L n1 S x = some R → f_X12_parse_10 N n s = some U → (¬ R.2.i 32 = 0 ∧ ¬ U.i 15 = 0) ∨ ∃ (m : Nat) (u : RS), f_X12_parse_10 N m u = some U ∧ ENV d R.2 u ∧ tpI u = (t : Int) - 1 ∧ FRB t s u ∧ TBK s u ∧ CKX S R.2 ∧ (s.i 11).toInt ≤ (u.i 11).toInt ∧ φ ≤ phI u ∧ (s.i 17).toInt ≤ (u.i 17).toInt ∧ u.i 19 = s.i 19 ∧ LCD t U S s R.2 u := by
  intro n1
  induction n1 with
  | zero =>
    intro n t d x S s U R φ _ _ _ _ _ _ _ _ _ e
    rw [hL.1] at e
    cases e
  | succ n1 ih =>
    intro n t d x S s U R φ hv ht hk hs hp1 hp2 h9 hx0 hx e g
    have h15 := hv.1.2.1
    obtain ⟨m, V, hV, g2⟩ := hK n s U t g ht h15 hk
    have en := tp_nat ht
    have t9 : t < 1000 := by
      have := (rl_0 g ht h15).2.1.2
      have h2 : (s.i 63).toInt = (t : Int) := ht
      omega
    -- behind the instruction of the part before
    obtain ⟨s2, v2, k2, q2, p2, i2, z2, hV2⟩ : ∃ s2 : RS, ENV d S s2 ∧ TBK s s2 ∧ qj2 s2 = qj2 s ∧ φ ≤ phI s2 ∧ (s2.i 17 = s.i 17 ∧ s2.i 10 = s.i 10 ∧ s2.i 11 = s.i 11 ∧ s2.i 19 = s.i 19) ∧ (CD2 (s.i 20).toInt s s2 ∧ (s.a 65 t = 1 → s2 = s) ∧ (s.a 65 t = 2 → (s2.i 20).toInt = (s.i 20).toInt + 1 ∧ s2.a 21 (pcR s) = 8 ∧ s2.a 22 (pcR s) = s.a 66 t)) ∧ ((opr (s.i 10) ∧ f_X12_sums_39 N s2 (s.i 63) K2 1 = some V) ∨ (¬ opr (s.i 10) ∧ f_X12_sums_39 N s2 (s.i 63) K2 0 = some V)) := by
      have un : ∀ y : Int32, f_X12_sums N s (s.i 63) K2 y = some V → ∃ s2 : RS, ENV d S s2 ∧ TBK s s2 ∧ qj2 s2 = qj2 s ∧ φ ≤ phI s2 ∧ (s2.i 17 = s.i 17 ∧ s2.i 10 = s.i 10 ∧ s2.i 11 = s.i 11 ∧ s2.i 19 = s.i 19) ∧ (CD2 (s.i 20).toInt s s2 ∧ (s.a 65 t = 1 → s2 = s) ∧ (s.a 65 t = 2 → (s2.i 20).toInt = (s.i 20).toInt + 1 ∧ s2.a 21 (pcR s) = 8 ∧ s2.a 22 (pcR s) = s.a 66 t)) ∧ f_X12_sums_39 N s2 (s.i 63) K2 y = some V := fun y hy => by
        unfold f_X12_sums at hy
        obtain ⟨-, hy⟩ := hf_ite hy
        rw [en] at hy
        have n0 : ¬ s.a 65 t = 0 := fun q => by
          rcases hs with z | z <;> rw [z] at q <;> exact absurd q (by decide)
        rw [if_neg n0] at hy
        by_cases c : s.a 65 t = 2
        · rw [if_pos c] at hy
          obtain ⟨w, hw, hy⟩ := hf_bind hy
          obtain ⟨w1, w2, w3, w4, -, -⟩ := em_env hv (by have := hp2 c; omega) hw
          obtain ⟨-, e10, e11, -, -, -, -, e17, e19, -⟩ := qj2_eq w3
          have p20 := hv.p20
          obtain ⟨m1, -, m2, m3, m4, -⟩ := cd_emit hw p20.1 (by omega)
          exact ⟨w.2, w1, w2, w3, by have := hp2 c; omega, ⟨e17, e10, e11, e19⟩, ⟨m1, fun z => by rw [c] at z; exact absurd z (by decide), fun _ => ⟨m2, m3, m4⟩⟩, hy⟩
        · rw [if_neg c] at hy
          exact ⟨s, hv, TBK.rf s, rfl, hp1 (hs.resolve_right c), ⟨rfl, rfl, rfl, rfl⟩, ⟨CD2.rf _ s, fun _ => rfl, fun z => absurd z c⟩, hy⟩
      rcases hV with ⟨a, b⟩ | ⟨a, b⟩
      · obtain ⟨s2, z1, z2, z3, z4, z5, z7, z6⟩ := un 1 b
        exact ⟨s2, z1, z2, z3, z4, z5, z7, Or.inl ⟨a, z6⟩⟩
      · obtain ⟨s2, z1, z2, z3, z4, z5, z7, z6⟩ := un 0 b
        exact ⟨s2, z1, z2, z3, z4, z5, z7, Or.inr ⟨a, z6⟩⟩
    obtain ⟨kq, -, -, -, -, -, -, -, -, -⟩ := qj2_eq q2
    have e63 : s2.i 63 = s.i 63 := congrArg (fun v : QJT => v.1.2.2.2.2.2.2.2.2.2.2.2.2.2.2.2.2.1) kq
    have ht2 : tpI s2 = t := by
      show (s2.i 63).toInt = (t : Int)
      rw [e63]
      exact ht
    have fr2 : FRB (t + 1) s s2 := FRB.of kq
    have is := hop S s hv.1.2.2.2.1
    have stp : s.a 65 t = 2 → ∀ (u9 : RS) (FC : Nat → Prop) (SF : CS) (nm : Nat → Nat → Prop) (X : Als) (c : List Ent) (h w W g0 P0 : Nat), CD2 (s2.i 20).toInt s2 u9 → XOP (SF.a 15 P0) (s.a 66 t) → P0 < 1200 → FGR s u9 U → HC0 nm h c → TYC SF U (GU FC SF U nm X) W c → W + 1 ≤ w → GU FC SF U nm X (P0 + 1) (pcR s2) (h + 1) w 0 c → GU FC SF U nm X P0 (pcR s) (h + 1 + 1) (w + 1) g0 c := fun c2 u9 FC SF nm X c h w W g0 P0 y1 y2 y3 y4 y5 y6 y7 y8 => by
      obtain ⟨m2, m3, m4⟩ := z2.2.2 c2
      have p20 := hv.p20
      have pr : ((pcR s : Nat) : Int) = (s.i 20).toInt := Int.toNat_of_nonneg p20.1
      have pr2 : pcR s2 = pcR s + 1 := by
        unfold pcR
        rw [m2]
        omega
      obtain ⟨⟨f1, f2, f3⟩, f4, -⟩ := y4
      have y10 := y1.1.1
      have at1 := f4 (pcR s) (by omega) (by omega)
      have at2 := y1.2.1 (pcR s) (by omega)
      rw [pr2] at y8
      refine gs_xop ⟨y3, by omega, f3⟩ y5 ?_ ?_ y6 y7 y8
      · rw [at1.2.1, at2.2.1, m4]
        exact y2
      · rw [at1.1, at2.1, m3]
    rcases hL.2.1 n1 S x R e with ⟨hst, hR⟩ | ⟨h900, hops, o, p, q, w, e1, e2, e3, e4, eo⟩
    · -- no more of them
      have no : ¬ opr (s.i 10) := fun z => by
        have z' := is.mpr z
        rcases hst with c | c
        · rw [no_900 hv hx c] at z'
          exact h0 z'
        · exact c z'
      rcases hV2 with ⟨a, -⟩ | ⟨-, b⟩
      · exact absurd a no
      · unfold f_X12_sums_39 at b
        rw [if_pos rfl] at b
        cases b
        rw [hR]
        refine Or.inr ⟨m, _, g2, pop_env v2, tp_sub ht2 t9, (fr2.mo (by omega)).tr pop_frb, k2.tr pop_tbk, CKX.rf S, ?_, p2, ?_, i2.2.2.2, fun cr => ⟨CD1.rf S, CT7.rf _ _ S, z2.1.tr (CD2.qe rfl), fun c1 => ?_, fun c2 => ?_⟩⟩
        · show (s.i 11).toInt ≤ (s2.i 11).toInt
          rw [i2.2.2.1]
          exact Int.le_refl _
        · show (s.i 17).toInt ≤ (s2.i 17).toInt
          rw [i2.1]
          exact Int.le_refl _
        · refine ⟨GPS.tt, SAT.tt _ _ _ _ (z2.1.tr (CD2.qe rfl)).1.2.2.2.2.1, ?_⟩
          intro FC SF nm X c h w W g0 y0 y1 y2 y3 y4 y5 y6 y7 y8 y9
          have es := z2.2.1 c1
          rw [es] at y9
          rw [show g0 = 0 from y8, Nat.sub_self]
          exact y9
        · refine ⟨GPS.tt, SAT.tt _ _ _ _ (z2.1.tr (CD2.qe rfl)).1.2.2.2.2.1, ?_⟩
          intro FC SF nm X c h w W g0 P0 y0 y1 y2 y3 y4 y5 y6 y7 y8 y9 y10 y11
          rw [y1] at y11
          rw [Nat.sub_self]
          exact stp c2 _ FC SF nm X c h w W g0 P0 (CD2.qe rfl) y2 y3 y5 y7 y9 y10 y11
    · -- one more
      have yes := is.mp hops
      rcases hV2 with ⟨-, b⟩ | ⟨a, -⟩
      · unfold f_X12_sums_39 at b
        rw [if_neg n10] at b
        obtain ⟨-, b⟩ := hf_ite b
        obtain ⟨v6, b6, b⟩ := hf_bind b
        obtain ⟨v8, b8, b⟩ := hf_bind b
        cases b
        rw [en] at b6
        obtain ⟨s3, hs3⟩ : ∃ y, y = RS.setA s2 66 t (s2.i 10) := ⟨_, rfl⟩
        rw [← hs3] at b6
        have v3 : ENV d S s3 := by
          rw [hs3]
          exact v2.kq rfl rfl rfl rfl rfl rfl rfl rfl rfl rfl rfl rfl rfl rfl rfl rfl rfl rfl rfl rfl ⟨v2.2.2.2.2.2.2.1, v2.2.2.2.2.2.2.2.1⟩ (v2.wp.of (Int.le_refl _) rfl rfl rfl rfl rfl)
        have k3 : TBK s2 s3 := by
          rw [hs3]
          exact ⟨⟨⟨rfl, rfl, rfl, rfl, rfl, rfl, rfl, rfl, rfl, rfl⟩, fun _ _ => ⟨rfl, rfl, rfl⟩, fun _ _ => ⟨rfl, rfl, rfl, rfl, rfl, rfl, rfl, rfl⟩, fun _ _ => ⟨rfl, rfl⟩, ⟨Int.le_refl _, fun j h1 h2 => absurd (show (j : Int) < (s2.i 59).toInt from h2) (by omega)⟩, fun _ _ => ⟨rfl, rfl, rfl⟩, Int.le_refl _, fun _ _ => rfl, Int.le_refl _, fun _ _ => ⟨rfl, rfl⟩, Int.le_refl _, fun _ _ => ⟨rfl, rfl, rfl⟩⟩, Int.le_refl _, fun _ _ => rfl⟩
        have f3 : FRB t s2 s3 := by
          rw [hs3]
          exact fun j hj => ⟨rfl, rfl, if_neg (by omega), rfl, rfl, rfl, rfl, rfl, rfl, rfl, rfl⟩
        have f3k : s3.a 64 t = K := by
          rw [hs3]
          show s2.a 64 t = K
          rw [(fr2 t (by omega)).1]
          exact hk
        have t3 : tpI s3 = t := by
          rw [hs3]
          exact ht2
        have i3 : s3.i 17 = s2.i 17 ∧ s3.i 11 = s2.i 11 ∧ s3.i 20 = s2.i 20 ∧ s3.i 19 = s2.i 19 := by
          rw [hs3]
          exact ⟨rfl, rfl, rfl, rfl⟩
        have qe3 : qe s3 = qe s2 := by
          rw [hs3]
          rfl
        have f366 : s3.a 66 t = s2.i 10 := by
          rw [hs3]
          exact if_pos rfl
        clear hs3
        have nz : ¬ S.i 43 = 0 := fun z => by
          rw [z] at hops
          exact h0 hops
        obtain ⟨v4, n1', n2', n3', n4', n5', n6', n7', n8', n9'⟩ := v3.adv hN nz e1 b6
        have t4 : tpI v6 = t := by
          have e : v6.i 63 = s3.i 63 := congrArg (fun v : QJT => v.1.2.2.2.2.2.2.2.2.2.2.2.2.2.2.2.2.1) n1'
          show (v6.i 63).toInt = (t : Int)
          rw [e]
          exact t3
        obtain ⟨b8', t99⟩ := r_then t4 b8
        have f4 : FRB (t + 1) s3 v6 := FRB.of n1'
        have k4 : TBK s3 v6 := TBK.of n1' (by rw [n5']; exact Int.le_refl _) (fun j _ => by rw [n6'])
        have ck1 : CKX S p.2 := CKX.of n2' n7' n8'
        have t17 : (v6.i 17).toInt = (s.i 17).toInt + 1 := by
          rw [n3', i3.1, i2.1]
          obtain ⟨h1, -, -, -, -, -, ⟨r1, r2, r3, r4, r5, -⟩⟩ := id hv
          have b5 := h1.2.2.2.2.1
          have b3 := h1.2.2.1.2.1
          have e1' : (1 : Int32).toInt = 1 := by decide
          have lc := h1.2.2.2.2.2.2.1.2.1
          have k11 := h1.2.2.2.1.1
          have k12 := h1.2.2.2.1.2.1
          rw [k11, k12] at lc
          unfold phI at r2
          rw [toInt_add] <;> rw [e1'] <;> omega
        have p4 : φ + 3 ≤ phI v6 := by
          unfold phI at p2 ⊢
          rw [n5', i3.2.2.1, t17]
          rw [i2.1] at p2
          omega
        have n4'' : (s.i 11).toInt + 1 ≤ (v6.i 11).toInt := by
          rw [i3.2.1, i2.2.2.1] at n4'
          exact n4'
        rw [b8'] at g2
        rcases hE d p.2 (TH v6 t 2 K2) U m (t + 1) q v4.th (TH.tp t4 (by omega)) TH.fk TH.fs (show 3 ≤ phI v6 by omega) e2 g2 with ⟨x1, x2⟩ | ⟨m2, u, g3, xo, xc⟩
        · left
          refine ⟨hL.2.2 n1 w.2 (x + 1) R e4 ?_, x2⟩
          rw [fst_add e3]
          exact x1
        · obtain ⟨o1, o2, o3, o4, o5, o6, o7, o8, o9⟩ := xo
          have k7 := kd_X0_add N q.2 o 0 w e3
          have v7 : ENV d w.2 u := o1.kd k7
          obtain ⟨kp7, -, -, -, e22, -, -, -, -, -, -, e18⟩ := pj2_eq k7
          have ck7 : CKX q.2 w.2 := CKX.of kp7 e22 e18
          have u64 : u.a 64 t = K := by
            rw [(o3 t (by omega)).1, TH.fk0 (Nat.le_refl t), (f4 t (by omega)).1]
            exact f3k
          have u65 : u.a 65 t = 2 := by
            rw [(o3 t (by omega)).2.1]
            exact TH.st
          have tu : tpI u = t := by
            rw [o2]
            omega
          have o6' : (v6.i 11).toInt + 1 ≤ (u.i 11).toInt := o6
          have o7' : phI v6 + 1 ≤ phI u := o7
          have o8' : (v6.i 17).toInt + 1 ≤ (u.i 17).toInt := o8
          have o9' : u.i 19 = v6.i 19 := o9
          have x1 : (x + 1).toInt = x.toInt + 1 := ad1 hx0 (by
            obtain ⟨h1, -⟩ := hv
            have b5 := h1.2.2.2.2.1
            have b3 := h1.2.2.1.2.1
            have lc := h1.2.2.2.2.2.2.1.2.1
            have k11 := h1.2.2.2.1.1
            have k12 := h1.2.2.2.1.2.1
            rw [k11, k12] at lc
            omega)
          have fT : FRB t v6 (TH v6 t 2 K2) := TH.frb
          have sm : FRB t s u := ((((fr2.mo (by omega)).tr f3).tr (f4.mo (by omega))).tr fT).tr (o3.mo (by omega))
          have km : TBK s u := (((k2.tr k3).tr k4).tr TH.tbk).tr o4
          rcases ih m2 t d (x + 1) w.2 u U R φ v7 tu u64 (Or.inr u65) (fun z => by rw [u65] at z; exact absurd z (by decide)) (fun _ => by omega) h9 (by omega) (by omega) e4 g3 with z | ⟨m3, u3, y1, y2, y3, y4, y5, y6, y7, y8, y9, y10, y11⟩
          · exact Or.inl z
          · refine Or.inr ⟨m3, u3, y1, y2, y3, sm.tr y4, km.tr y5, ((ck1.tr o5).tr ck7).tr y6, by omega, y8, by omega, y10.trans (o9'.trans (n9'.trans (i3.2.2.2.trans i2.2.2.2))), fun cr => ?_⟩
            obtain ⟨a1, a2, a3, a4, a5, a6, a7⟩ := adv_cd hN v3 nz e1 b6
            have crp : CRB p.2 := cr.of a1 (by omega) (by omega)
            obtain ⟨b1, b2, b3, b4⟩ := xc crp
            have crq : CRB q.2 := crp.of b1 (by omega) (by omega)
            have q44 := o1.p44
            have q44' : (q.2.i 44).toInt = (u.i 11).toInt := by rw [q44.1]
            obtain ⟨d1, d2, ⟨d3, d3'⟩, d4, d5, d6⟩ := cd_add e3 crq.1.1 (by have := crq.1.2; omega)
            have c0w : CD1 0 (-2) S w.2 := ((a1.tr b1).tr d1).wk (by omega) (by omega)
            have crw : CRB w.2 := cr.of c0w (by omega) (by omega)
            obtain ⟨g1, g2', g3', -, g5⟩ := y11 crw
            have g5' := g5 u65
            have cqR : CD1 1 0 q.2 R.2 := (d1.tr g1).wk (by omega) (by omega)
            have e20s : (TH v6 t 2 K2).i 20 = s2.i 20 := (a6.trans i3.2.2.1 : v6.i 20 = s2.i 20)
            have m23 : ∀ c : Int, CD2 c s2 (TH v6 t 2 K2) := fun c => ((CD2.qe qe3).tr (a3 c)).tr (CD2.qe rfl)
            have m2u : CD2 (s2.i 20).toInt s2 u := (m23 _).tr (b3.wk (by rw [e20s]; exact Int.le_refl _))
            have l2 := z2.1.1.1
            have mu3 : CD2 (s2.i 20).toInt s2 u3 := m2u.tr (g3'.wk m2u.1.1)
            have su : CD2 (s.i 20).toInt s u := z2.1.tr (m2u.wk l2)
            have tRq : CT7 0 (q.2.i 21).toInt q.2 R.2 := (CT7.eq d4).tr (g2'.wk (by omega) (by rw [d5]; exact Int.le_refl _))
            have kT : TBK s (TH v6 t 2 K2) := ((k2.tr k3).tr k4).tr TH.tbk
            have n50 := hv.2.1.1
            have x66 : u.a 66 t = s.i 10 := by
              rw [(o3 t (by omega)).2.2.1]
              show v6.a 66 t = s.i 10
              rw [(f4 t (by omega)).2.2.1, f366, i2.2.1]
            have ox := opt_tk hv.1.2.2.2.1 eo
            have pS : ((pcC S : Nat) : Int) = (S.i 20).toInt := Int.toNat_of_nonneg cr.1.1
            have pp : pcC p.2 = pcC S := by unfold pcC; rw [a4]
            have pq : ((pcC q.2 : Nat) : Int) = (q.2.i 20).toInt := Int.toNat_of_nonneg crq.1.1
            have pw : pcC w.2 = pcC q.2 + 1 := by
              unfold pcC
              rw [d2]
              have := crq.1.1
              omega
            have pR : ((pcC R.2 : Nat) : Int) = (R.2.i 20).toInt := Int.toNat_of_nonneg (by have := g1.1.1; have := crw.1.1; omega)
            have lqR := cqR.1.1
            have lSq : (S.i 20).toInt ≤ (q.2.i 20).toInt := by have := b1.1.1; rw [a4] at this; exact this
            obtain ⟨Ψ1, sat1, b4⟩ := b4
            obtain ⟨Ψ2, sat2, g5'⟩ := g5'
            have satc : SAT (GPS.an Ψ1 Ψ2) S s R.2 u3 := (sat1.wd (MNO.of a1 (z2.1.tr (m23 _))) (MNO.of d1 (CD2.rf 0 u))).an sat2 (MNO.of c0w su) (MNO.of g1 g3')
            have core : ∀ (FC : Nat → Prop) (SF : CS) (nm : Nat → Nat → Prop) (X : Als) (c : List Ent) (h w1 W g0 : Nat), GPS.an Ψ1 Ψ2 FC nm → FGC S R.2 SF → FGR s u3 U → NMG nm c S s → HC0 nm h c → ((2 * h + 1 + msr c : Nat) : Int) ≤ (s.i 11).toInt → TYC SF U (GU FC SF U nm X) W c → W + 1 ≤ w1 → GU FC SF U nm X (pcC R.2) (pcR u3) (h + 1) w1 0 c → GU FC SF U nm X (pcC S) (pcR s2) (h + 1) (w1 + (pcC R.2 - pcC S)) g0 c := by
              intro FC SF nm X c h w1 W g0 ps fc fr ng hc hh ty hW z
              have hw20 := d2
              have l20 := g1.1.1
              have f15 : SF.a 15 (pcC q.2) = o := by
                rw [(fc.2.1 (pcC q.2) (by omega) (by omega)).1, (g1.2.1 (pcC q.2) (by omega)).1]
                exact d3
              have z1 := g5' FC SF nm X c h w1 W 0 (pcC q.2) ps.2 pw (by rw [f15, x66]; exact ox) (by have := crq.1.2; omega) (fc.sub c0w (CD1.rf R.2) (CT7.rf _ _ R.2)) (fr.sub su (CD2.rf 0 u3) (fun _ _ _ => ⟨rfl, rfl, rfl⟩)) (ng.mv n50 c0w su km.1.1.2.2.2.1 (fun j hj => (km.1.2.1 j hj).2.1) (by rw [o9'.trans (n9'.trans (i3.2.2.2.trans i2.2.2.2))]; exact Int.le_refl _)) hc (by omega) ty hW z
              have z2' := b4 FC SF nm X c (h + 1) (w1 + (pcC R.2 - pcC w.2) + 1) W g0 ps.1 (fc.sub a1 cqR (tRq.wk (by have := crp.2.1; omega) (Int.le_refl _))) (fr.sub (z2.1.tr (m23 _)) g3' (g3'.c3 (Int.le_refl _))) (ng.mv n50 a1 (z2.1.tr (m23 _)) kT.1.1.2.2.2.1 (fun j hj => (kT.1.2.1 j hj).2.1) (show (s.i 19).toInt ≤ (v6.i 19).toInt by rw [n9'.trans (i3.2.2.2.trans i2.2.2.2)]; exact Int.le_refl _)) (hc.up (by omega)) (show ((2 * (h + 1) + 0 + msr c : Nat) : Int) ≤ (v6.i 11).toInt by omega) ty (by omega) True.intro z1
              rw [pp] at z2'
              rw [show pcR (TH v6 t 2 K2) = pcR s2 by unfold pcR; rw [e20s]] at z2'
              rw [show w1 + (pcC R.2 - pcC S) = w1 + (pcC R.2 - pcC w.2) + 1 + (pcC q.2 - pcC S) by omega]
              exact z2'
            refine ⟨(c0w.tr g1).wk (by omega) (by omega), ((a2 _ _).tr (b2.wk (Int.le_refl _) (by rw [a5]; exact Int.le_refl _))).tr (tRq.wk (Int.le_refl _) (by have := b1.2.2.1; rw [a5] at this; exact this)), z2.1.tr (mu3.wk l2), fun c1 => ?_, fun c2 => ?_⟩
            · refine ⟨_, satc, ?_⟩
              intro FC SF nm X c h w1 W g0 h0 h1 h2 h3 h4 h5 h6 h7 h8 h9
              have z := core FC SF nm X c h w1 W g0 h0 h1 h2 h3 h4 h5 h6 h7 h9
              rw [z2.2.1 c1] at z
              exact z
            · refine ⟨_, satc, ?_⟩
              intro FC SF nm X c h w1 W g0 P0 h0 h1 h2 h3 h4 h5 h6 h7 h8 h9 h10 h11
              have z := core FC SF nm X c h w1 W 0 h0 h4 h5 h6 h7 (by omega) h9 h10 h11
              rw [h1] at z ⊢
              exact stp c2 u3 FC SF nm X c h _ W g0 P0 mu3 h2 h3 h5 h7 h9 (by omega) z
      · exact absurd yes a
