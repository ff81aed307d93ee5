/-! both readers: sums and products -/
/-- a loop of the class over parts, one turn -/
def LPA (N : Nat) (ops : Int32 → Prop) (E : CS → Option (Unit × CS)) (L : Nat → CS → Int32 → Option (Unit × CS)) : Prop := (∀ S x, L 0 S x = none) ∧ (∀ n S x R, L (n + 1) S x = some R → (((900 : Int32) ≤ x ∨ ¬ ops (S.i 43)) ∧ R = ((), S)) ∨ (¬ (900 : Int32) ≤ x ∧ ops (S.i 43) ∧ ∃ (o : Int32) (p q w : Unit × CS), f_X9_advance N S = some p ∧ E p.2 = some q ∧ f_X0_add N q.2 o 0 = some w ∧ L n w.2 (x + 1) = some R)) ∧ (∀ n S x R, L n S x = some R → ¬ S.i 32 = 0 → ¬ R.2.i 32 = 0)
theorem fst_add {N : Nat} {S : CS} {o x : Int32} {R : Unit × CS} (e : f_X0_add N S o x = some R) : R.2.i 32 = S.i 32 := (pj2_eq (kd_X0_add N S o x R e)).2.1
/-- no sign of a byte stands behind the 900th -/
theorem no_900 {d : Int32} {S : CS} {s : RS} {x : Int32} (h : ENV d S s) (hx : x.toInt ≤ (s.i 11).toInt) (h9 : (900 : Int32) ≤ x) : S.i 43 = 0 := by
  have e9 : (900 : Int32).toInt = 900 := by decide
  have l := le_int h9
  obtain ⟨h1, -⟩ := h
  have lc := h1.2.2.2.2.2.2.1
  have k11 := h1.2.2.2.1.1
  by_cases c : S.i 43 = 0
  · exact c
  · have q := lc.2.2.2.1 c
    have q2 := lc.2.1
    have q3 := lc.1
    rw [k11] at q q2
    omega
theorem sx_loop {N : Nat} (hN : 1000 ≤ N) {K K2 : Int32} {ops : Int32 → Prop} {opr : Int32 → Prop} {E : CS → Option (Unit × CS)} {L : Nat → CS → Int32 → Option (Unit × CS)} (hE : SXR N K2 E) (hFE : ∀ S R, E S = some R → ¬ S.i 32 = 0 → ¬ R.2.i 32 = 0) (hL : LPA N ops E L) (h0 : ¬ ops 0) (hop : ∀ (S : CS) (s : RS), TKR S s → (ops (S.i 43) ↔ opr (s.i 10)))
    (hK : ∀ (n : Nat) (s U : RS) (t : Nat), f_X12_parse_10 N n s = some U → tpI s = t → s.i 15 = 0 → s.a 64 t = K → ∃ (m : Nat) (V : RS), ((opr (s.i 10) ∧ f_X12_sums N s (s.i 63) K2 1 = some V) ∨ (¬ opr (s.i 10) ∧ f_X12_sums N s (s.i 63) K2 0 = some V)) ∧ f_X12_parse_10 N m V = some U) :
    ∀ (n1 n t : Nat) (d x : Int32) (S : CS) (s U : RS) (R : Unit × CS) (φ : Int), ENV d S s → tpI s = t → s.a 64 t = K → (s.a 65 t = 1 ∨ s.a 65 t = 2) → (s.a 65 t = 1 → φ ≤ phI s) → (s.a 65 t = 2 → φ + 1 ≤ phI s) → 0 ≤ φ → 0 ≤ x.toInt → x.toInt ≤ (s.i 11).toInt → L n1 S x = some R → f_X12_parse_10 N n s = some U → (¬ R.2.i 32 = 0 ∧ ¬ U.i 15 = 0) ∨ ∃ (m : Nat) (u : RS), f_X12_parse_10 N m u = some U ∧ ENV d R.2 u ∧ tpI u = (t : Int) - 1 ∧ FRB t s u ∧ TBK s u ∧ CKX S R.2 ∧ (s.i 11).toInt ≤ (u.i 11).toInt ∧ φ ≤ phI u ∧ (s.i 17).toInt ≤ (u.i 17).toInt ∧ u.i 19 = s.i 19 := by
  intro n1
  induction n1 with
  | zero =>
    intro n t d x S s U R φ _ _ _ _ _ _ _ _ _ e
    rw [hL.1] at e
    cases e
  | succ n1 ih =>
    intro n t d x S s U R φ hv ht hk hs hp1 hp2 h9 hx0 hx e g
    have h15 := hv.1.2.1
    obtain ⟨m, V, hV, g2⟩ := hK n s U t g ht h15 hk
    have en := tp_nat ht
    have t9 : t < 1000 := by
      have := (rl_0 g ht h15).2.1.2
      have h2 : (s.i 63).toInt = (t : Int) := ht
      omega
    -- behind the instruction of the part before
    obtain ⟨s2, v2, k2, q2, p2, i2, hV2⟩ : ∃ s2 : RS, ENV d S s2 ∧ TBK s s2 ∧ qj2 s2 = qj2 s ∧ φ ≤ phI s2 ∧ (s2.i 17 = s.i 17 ∧ s2.i 10 = s.i 10 ∧ s2.i 11 = s.i 11 ∧ s2.i 19 = s.i 19) ∧ ((opr (s.i 10) ∧ f_X12_sums_39 N s2 (s.i 63) K2 1 = some V) ∨ (¬ opr (s.i 10) ∧ f_X12_sums_39 N s2 (s.i 63) K2 0 = some V)) := by
      have un : ∀ y : Int32, f_X12_sums N s (s.i 63) K2 y = some V → ∃ s2 : RS, ENV d S s2 ∧ TBK s s2 ∧ qj2 s2 = qj2 s ∧ φ ≤ phI s2 ∧ (s2.i 17 = s.i 17 ∧ s2.i 10 = s.i 10 ∧ s2.i 11 = s.i 11 ∧ s2.i 19 = s.i 19) ∧ f_X12_sums_39 N s2 (s.i 63) K2 y = some V := fun y hy => by
        unfold f_X12_sums at hy
        obtain ⟨-, hy⟩ := hf_ite hy
        rw [en] at hy
        have n0 : ¬ s.a 65 t = 0 := fun q => by
          rcases hs with z | z <;> rw [z] at q <;> exact absurd q (by decide)
        rw [if_neg n0] at hy
        by_cases c : s.a 65 t = 2
        · rw [if_pos c] at hy
          obtain ⟨w, hw, hy⟩ := hf_bind hy
          obtain ⟨w1, w2, w3, w4, -, -⟩ := em_env hv (by have := hp2 c; omega) hw
          obtain ⟨-, e10, e11, -, -, -, -, e17, e19, -⟩ := qj2_eq w3
          exact ⟨w.2, w1, w2, w3, by have := hp2 c; omega, ⟨e17, e10, e11, e19⟩, hy⟩
        · rw [if_neg c] at hy
          exact ⟨s, hv, TBK.rf s, rfl, hp1 (hs.resolve_right c), ⟨rfl, rfl, rfl, rfl⟩, hy⟩
      rcases hV with ⟨a, b⟩ | ⟨a, b⟩
      · obtain ⟨s2, z1, z2, z3, z4, z5, z6⟩ := un 1 b
        exact ⟨s2, z1, z2, z3, z4, z5, Or.inl ⟨a, z6⟩⟩
      · obtain ⟨s2, z1, z2, z3, z4, z5, z6⟩ := un 0 b
        exact ⟨s2, z1, z2, z3, z4, z5, Or.inr ⟨a, z6⟩⟩
    obtain ⟨kq, -, -, -, -, -, -, -, -, -⟩ := qj2_eq q2
    have e63 : s2.i 63 = s.i 63 := congrArg (fun v : QJT => v.1.2.2.2.2.2.2.2.2.2.2.2.2.2.2.2.2.1) kq
    have ht2 : tpI s2 = t := by
      show (s2.i 63).toInt = (t : Int)
      rw [e63]
      exact ht
    have fr2 : FRB (t + 1) s s2 := FRB.of kq
    have is := hop S s hv.1.2.2.2.1
    rcases hL.2.1 n1 S x R e with ⟨hst, hR⟩ | ⟨h900, hops, o, p, q, w, e1, e2, e3, e4⟩
    · -- no more of them
      have no : ¬ opr (s.i 10) := fun z => by
        have z' := is.mpr z
        rcases hst with c | c
        · rw [no_900 hv hx c] at z'
          exact h0 z'
        · exact c z'
      rcases hV2 with ⟨a, -⟩ | ⟨-, b⟩
      · exact absurd a no
      · unfold f_X12_sums_39 at b
        rw [if_pos rfl] at b
        cases b
        rw [hR]
        refine Or.inr ⟨m, _, g2, pop_env v2, tp_sub ht2 t9, (fr2.mo (by omega)).tr pop_frb, k2.tr pop_tbk, CKX.rf S, ?_, p2, ?_, i2.2.2.2⟩
        · show (s.i 11).toInt ≤ (s2.i 11).toInt
          rw [i2.2.2.1]
          exact Int.le_refl _
        · show (s.i 17).toInt ≤ (s2.i 17).toInt
          rw [i2.1]
          exact Int.le_refl _
    · -- one more
      have yes := is.mp hops
      rcases hV2 with ⟨-, b⟩ | ⟨a, -⟩
      · unfold f_X12_sums_39 at b
        rw [if_neg n10] at b
        obtain ⟨-, b⟩ := hf_ite b
        obtain ⟨v6, b6, b⟩ := hf_bind b
        obtain ⟨v8, b8, b⟩ := hf_bind b
        cases b
        rw [en] at b6
        obtain ⟨s3, hs3⟩ : ∃ y, y = RS.setA s2 66 t (s2.i 10) := ⟨_, rfl⟩
        rw [← hs3] at b6
        have v3 : ENV d S s3 := by
          rw [hs3]
          exact v2.kq rfl rfl rfl rfl rfl rfl rfl rfl rfl rfl rfl rfl rfl rfl rfl rfl rfl rfl rfl rfl ⟨v2.2.2.2.2.2.2.1, v2.2.2.2.2.2.2.2.1⟩ (v2.wp.of (Int.le_refl _) rfl rfl rfl rfl rfl)
        have k3 : TBK s2 s3 := by
          rw [hs3]
          exact ⟨⟨⟨rfl, rfl, rfl, rfl, rfl, rfl, rfl, rfl, rfl, rfl⟩, fun _ _ => ⟨rfl, rfl, rfl⟩, fun _ _ => ⟨rfl, rfl, rfl, rfl, rfl, rfl, rfl, rfl⟩, fun _ _ => ⟨rfl, rfl⟩, ⟨Int.le_refl _, fun j h1 h2 => absurd (show (j : Int) < (s2.i 59).toInt from h2) (by omega)⟩, fun _ _ => ⟨rfl, rfl, rfl⟩, Int.le_refl _, fun _ _ => rfl, Int.le_refl _, fun _ _ => ⟨rfl, rfl⟩, Int.le_refl _, fun _ _ => ⟨rfl, rfl, rfl⟩⟩, Int.le_refl _, fun _ _ => rfl⟩
        have f3 : FRB t s2 s3 := by
          rw [hs3]
          exact fun j hj => ⟨rfl, rfl, if_neg (by omega), rfl, rfl, rfl, rfl, rfl, rfl, rfl, rfl⟩
        have f3k : s3.a 64 t = K := by
          rw [hs3]
          show s2.a 64 t = K
          rw [(fr2 t (by omega)).1]
          exact hk
        have t3 : tpI s3 = t := by
          rw [hs3]
          exact ht2
        have i3 : s3.i 17 = s2.i 17 ∧ s3.i 11 = s2.i 11 ∧ s3.i 20 = s2.i 20 ∧ s3.i 19 = s2.i 19 := by
          rw [hs3]
          exact ⟨rfl, rfl, rfl, rfl⟩
        clear hs3
        have nz : ¬ S.i 43 = 0 := fun z => by
          rw [z] at hops
          exact h0 hops
        obtain ⟨v4, n1', n2', n3', n4', n5', n6', n7', n8', n9'⟩ := v3.adv hN nz e1 b6
        have t4 : tpI v6 = t := by
          have e : v6.i 63 = s3.i 63 := congrArg (fun v : QJT => v.1.2.2.2.2.2.2.2.2.2.2.2.2.2.2.2.2.1) n1'
          show (v6.i 63).toInt = (t : Int)
          rw [e]
          exact t3
        obtain ⟨b8', t99⟩ := r_then t4 b8
        have f4 : FRB (t + 1) s3 v6 := FRB.of n1'
        have k4 : TBK s3 v6 := TBK.of n1' (by rw [n5']; exact Int.le_refl _) (fun j _ => by rw [n6'])
        have ck1 : CKX S p.2 := CKX.of n2' n7' n8'
        have t17 : (v6.i 17).toInt = (s.i 17).toInt + 1 := by
          rw [n3', i3.1, i2.1]
          obtain ⟨h1, -, -, -, -, -, ⟨r1, r2, r3, r4, r5, -⟩⟩ := id hv
          have b5 := h1.2.2.2.2.1
          have b3 := h1.2.2.1.2.1
          have e1' : (1 : Int32).toInt = 1 := by decide
          have lc := h1.2.2.2.2.2.2.1.2.1
          have k11 := h1.2.2.2.1.1
          have k12 := h1.2.2.2.1.2.1
          rw [k11, k12] at lc
          unfold phI at r2
          rw [toInt_add] <;> rw [e1'] <;> omega
        have p4 : φ + 3 ≤ phI v6 := by
          unfold phI at p2 ⊢
          rw [n5', i3.2.2.1, t17]
          rw [i2.1] at p2
          omega
        have n4'' : (s.i 11).toInt + 1 ≤ (v6.i 11).toInt := by
          rw [i3.2.1, i2.2.2.1] at n4'
          exact n4'
        rw [b8'] at g2
        rcases hE d p.2 (TH v6 t 2 K2) U m (t + 1) q v4.th (TH.tp t4 (by omega)) TH.fk TH.fs (show 3 ≤ phI v6 by omega) e2 g2 with ⟨x1, x2⟩ | ⟨m2, u, g3, xo⟩
        · left
          refine ⟨hL.2.2 n1 w.2 (x + 1) R e4 ?_, x2⟩
          rw [fst_add e3]
          exact x1
        · obtain ⟨o1, o2, o3, o4, o5, o6, o7, o8, o9⟩ := xo
          have k7 := kd_X0_add N q.2 o 0 w e3
          have v7 : ENV d w.2 u := o1.kd k7
          obtain ⟨kp7, -, -, -, e22, -, -, -, -, -, -, e18⟩ := pj2_eq k7
          have ck7 : CKX q.2 w.2 := CKX.of kp7 e22 e18
          have u64 : u.a 64 t = K := by
            rw [(o3 t (by omega)).1, TH.fk0 (Nat.le_refl t), (f4 t (by omega)).1]
            exact f3k
          have u65 : u.a 65 t = 2 := by
            rw [(o3 t (by omega)).2.1]
            exact TH.st
          have tu : tpI u = t := by
            rw [o2]
            omega
          have o6' : (v6.i 11).toInt + 1 ≤ (u.i 11).toInt := o6
          have o7' : phI v6 + 1 ≤ phI u := o7
          have o8' : (v6.i 17).toInt + 1 ≤ (u.i 17).toInt := o8
          have o9' : u.i 19 = v6.i 19 := o9
          have x1 : (x + 1).toInt = x.toInt + 1 := ad1 hx0 (by
            obtain ⟨h1, -⟩ := hv
            have b5 := h1.2.2.2.2.1
            have b3 := h1.2.2.1.2.1
            have lc := h1.2.2.2.2.2.2.1.2.1
            have k11 := h1.2.2.2.1.1
            have k12 := h1.2.2.2.1.2.1
            rw [k11, k12] at lc
            omega)
          have fT : FRB t v6 (TH v6 t 2 K2) := TH.frb
          have sm : FRB t s u := ((((fr2.mo (by omega)).tr f3).tr (f4.mo (by omega))).tr fT).tr (o3.mo (by omega))
          have km : TBK s u := (((k2.tr k3).tr k4).tr TH.tbk).tr o4
          rcases ih m2 t d (x + 1) w.2 u U R φ v7 tu u64 (Or.inr u65) (fun z => by rw [u65] at z; exact absurd z (by decide)) (fun _ => by omega) h9 (by omega) (by omega) e4 g3 with z | ⟨m3, u3, y1, y2, y3, y4, y5, y6, y7, y8, y9, y10⟩
          · exact Or.inl z
          · exact Or.inr ⟨m3, u3, y1, y2, y3, sm.tr y4, km.tr y5, ((ck1.tr o5).tr ck7).tr y6, by omega, y8, by omega, y10.trans (o9'.trans (n9'.trans (i3.2.2.2.trans i2.2.2.2)))⟩
      · exact absurd yes a
