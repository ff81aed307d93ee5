/-! both readers: a goal more -/
def GOA (s x : RS) (w : Int32) (n : Int64) : Prop := (∀ k : Nat, k ≠ 43 → x.i k = s.i k) ∧ x.l = s.l ∧ (∀ k : Nat, k < 44 ∨ k = 45 ∨ 51 < k → x.a k = s.a k) ∧ (∀ k j : Nat, (j : Int) < (s.i 43).toInt → x.a k j = s.a k j) ∧ (∀ k : Nat, k ≠ 45 → x.b k = s.b k) ∧ (∀ j : Nat, (j : Int) < (s.i 43).toInt → x.b 45 j = s.b 45 j) ∧ (0 ≤ (s.i 43).toInt ∧ (s.i 43).toInt < 460 ∧ (x.i 43).toInt = (s.i 43).toInt + 1) ∧ (∀ g : Nat, (s.i 43).toInt = (g : Int) → (x.a 44 g = w ∧ x.b 45 g = n) ∧ (x.a 46 g = -1 ∧ x.a 48 g = -1 ∧ x.a 49 g = -1) ∧ x.a 50 g = 0 ∧ x.a 51 g = 0)
theorem g_goa {N : Nat} {u : RS} {w : Int32} {n : Int64} {V : Int32 × RS} (h : f_X12_goal N u w n = some V) : V.1 = u.i 43 ∧ GOA u V.2 w n := by
  obtain ⟨⟨h0, h4⟩, rfl⟩ := g_goal h
  have gn : (((u.i 43).toNatClampNeg : Nat) : Int) = (u.i 43).toInt := gN (u := u) h0
  refine ⟨rfl, fun k hk => GO.eI hk, rfl, fun k hk => GO.eA hk, fun k j hj => GO.lo (by omega), fun k hk => ?_, fun j hj => ?_, ⟨h0, h4, GO.eGO (u := u) h0 h4⟩, fun g hg => ?_⟩
  · show va_up u.b 45 _ k = u.b k
    unfold va_up
    exact if_neg hk
  · show va_up u.b 45 (vp_updL (u.b 45) (u.i 43).toNatClampNeg n) 45 j = u.b 45 j
    unfold va_up vp_updL
    rw [if_pos rfl]
    exact if_neg (by omega)
  · have eg : g = (u.i 43).toNatClampNeg := by omega
    subst eg
    refine ⟨⟨GO.a44, ?_⟩, ⟨GO.a46, GO.a48, GO.a49⟩, GO.a50, GO.a51⟩
    show va_up u.b 45 (vp_updL (u.b 45) (u.i 43).toNatClampNeg n) 45 (u.i 43).toNatClampNeg = n
    unfold va_up vp_updL
    rw [if_pos rfl]
    exact if_pos rfl
theorem GOA.env {d : Int32} {S : CS} {s x : RS} {w : Int32} {n : Int64} (h : GOA s x w n) (g : ENV d S s) : ENV d S x := by
  obtain ⟨h1, h2, h3, h4, h5, h6, ⟨h7, h8, h9⟩, h10⟩ := h
  have e := fun k hk => h1 k hk
  refine g.kq (e 38 (by decide)) (e 2 (by decide)) (e 3 (by decide)) (e 18 (by decide)) (e 53 (by decide)) (e 54 (by decide)) (e 55 (by decide)) (h3 1 (by decide)) (h3 4 (by decide)) (h3 41 (by decide)) (h5 9 (by decide)) (h5 39 (by decide)) (e 10 (by decide)) (e 11 (by decide)) (e 12 (by decide)) (e 14 (by decide)) (e 15 (by decide)) (e 17 (by decide)) (e 19 (by decide)) h2 ?_ ?_
  · unfold phI
    rw [e 17 (by decide), e 20 (by decide)]
    exact ⟨g.2.2.2.2.2.2.1, g.2.2.2.2.2.2.2.1⟩
  · have w := g.wp
    unfold WPI at *
    rw [h9, e 56 (by decide), e 59 (by decide), e 29 (by decide), h3 58 (by decide), h3 62 (by decide)]
    exact ⟨⟨by omega, w.1.2.1, fun z => by have := w.1.2.2.1 z; omega, w.1.2.2.2⟩, w.2⟩
theorem GOA.frb {s x : RS} {w : Int32} {n : Int64} (h : GOA s x w n) (t : Nat) : FRB t s x := fun j _ => by
  obtain ⟨h1, h2, h3, h4, h5, h6, h7, h8⟩ := h
  rw [h3 64 (by decide), h3 65 (by decide), h3 66 (by decide), h3 67 (by decide), h3 68 (by decide), h3 69 (by decide), h3 70 (by decide), h3 71 (by decide), h3 72 (by decide), h3 73 (by decide), h5 74 (by decide)]
  exact ⟨rfl, rfl, rfl, rfl, rfl, rfl, rfl, rfl, rfl, rfl, rfl⟩
theorem GOA.tbr {s x : RS} {w : Int32} {n : Int64} (h : GOA s x w n) : TBR s x := by
  obtain ⟨h1, h2, h3, h4, h5, h6, h7, h8⟩ := h
  refine ⟨fun j _ => ⟨by rw [h5 39 (by decide)], by rw [h3 40 (by decide)], by rw [h3 41 (by decide)]⟩, fun j hj => ⟨h4 44 j hj, h6 j hj, h4 46 j hj, h4 47 j hj, h4 50 j hj, h4 51 j hj, h4 48 j hj, h4 49 j hj⟩, fun j _ => ⟨by rw [h3 57 (by decide)], by rw [h3 58 (by decide)]⟩, ⟨by rw [h1 59 (by decide)]; exact Int.le_refl _, fun j k1 k2 => by rw [h1 59 (by decide)] at k2; omega⟩, fun j _ => ⟨by rw [h3 60 (by decide)], by rw [h3 61 (by decide)], by rw [h3 62 (by decide)]⟩, by rw [h1 29 (by decide)]; exact Int.le_refl _, fun j _ => by rw [h3 30 (by decide)], by rw [h1 33 (by decide)]; exact Int.le_refl _, fun j _ => ⟨by rw [h3 34 (by decide)], by rw [h3 37 (by decide)]⟩, by rw [h1 24 (by decide)]; exact Int.le_refl _, fun j _ => ⟨by rw [h3 25 (by decide)], by rw [h3 27 (by decide)], by rw [h3 28 (by decide)]⟩⟩
/-- the tables, where the labels' loops are taken as they will be -/
theorem TBR.e46 {s x v : RS} (h : TBR s x) (g : E46 x v) : TBR (s46 s (v.a 46)) v := by
  obtain ⟨q0, q1, q2, ⟨q3a, q3b⟩, q4, q5, q6, q7, q8, q9, q10⟩ := h
  obtain ⟨ei, el, eb, ea⟩ := g
  have si : (s46 s (v.a 46)).i = s.i := rfl
  have sb : (s46 s (v.a 46)).b = s.b := rfl
  have sa : ∀ k : Nat, k ≠ 46 → (s46 s (v.a 46)).a k = s.a k := fun k hk => if_neg hk
  have s6 : (s46 s (v.a 46)).a 46 = v.a 46 := s46.at
  unfold TBR
  rw [si, sb, ei, eb, s6, sa 40 (by decide), sa 41 (by decide), sa 44 (by decide), sa 47 (by decide), sa 48 (by decide), sa 49 (by decide), sa 50 (by decide), sa 51 (by decide), sa 57 (by decide), sa 58 (by decide), sa 60 (by decide), sa 61 (by decide), sa 62 (by decide), sa 30 (by decide), sa 34 (by decide), sa 37 (by decide), sa 25 (by decide), sa 27 (by decide), sa 28 (by decide), ea 40 (by decide), ea 41 (by decide), ea 44 (by decide), ea 47 (by decide), ea 48 (by decide), ea 49 (by decide), ea 50 (by decide), ea 51 (by decide), ea 57 (by decide), ea 58 (by decide), ea 60 (by decide), ea 61 (by decide), ea 62 (by decide), ea 30 (by decide), ea 34 (by decide), ea 37 (by decide), ea 25 (by decide), ea 27 (by decide), ea 28 (by decide)]
  exact ⟨q0, fun j hj => ⟨(q1 j hj).1, (q1 j hj).2.1, rfl, (q1 j hj).2.2.2⟩, q2, ⟨q3a, q3b⟩, q4, q5, q6, q7, q8, q9, q10⟩
/-- a row more with a goal, no switch; what it waits for is new -/
theorem COL.addg {S : CS} {s : RS} {L : List CEL} {c1 : CEL} {col : Nat → Option (Nat × Bool)} {b20 : Int} (h : COL S s L col b20) (gh : isGo (S.o c1.2.1 0) → (s.a 48 (ceG c1)).toInt < 0 ∧ (s.a 49 (ceG c1)).toInt < 0) (ns : ¬ S.o c1.2.1 0 = 218) (np : ∀ k : Int, PLF S s c1 k → b20 ≤ k ∧ k < (s.i 20).toInt ∧ col k.toNat = none ∧ ∀ q ∈ L, S.o q.2.1 0 = 218 → ¬ k = (s.a 66 (ceT q)).toInt) : COL S s (c1 :: L) col b20 := by
  obtain ⟨h1, h2, h3, h4, h5, h6, h7⟩ := h
  refine ⟨h1, h2, fun c hc q => ?_, fun k g e q => ?_, fun c hc q => ?_, fun c hc q hq t1 t2 l => ?_, fun c hc k p => ?_⟩
  · rcases List.mem_cons.mp hc with rfl | hc
    · exact ⟨Or.inl (gh q).1, Or.inl (gh q).2⟩
    · exact h3 c hc q
  · obtain ⟨c, hc, g1, g2⟩ := h4 k g e q
    exact ⟨c, List.mem_cons_of_mem _ hc, g1, g2⟩
  · rcases List.mem_cons.mp hc with rfl | hc
    · exact absurd q ns
    · exact h5 c hc q
  · rcases List.mem_cons.mp hc with rfl | hc
    · exact absurd t1 ns
    · rcases List.mem_cons.mp hq with rfl | hq
      · exact absurd t2 ns
      · exact h6 c hc q hq t1 t2 l
  · rcases List.mem_cons.mp hc with rfl | hc
    · obtain ⟨z1, z2, z3, z4⟩ := np k p
      refine ⟨z1, z2, z3, fun q hq t => ?_⟩
      rcases List.mem_cons.mp hq with rfl | hq
      · exact absurd t ns
      · exact z4 q hq t
    · obtain ⟨z1, z2, z3, z4⟩ := h7 c hc k p
      refine ⟨z1, z2, z3, fun q hq t => ?_⟩
      rcases List.mem_cons.mp hq with rfl | hq
      · exact absurd t ns
      · exact z4 q hq t
/-- as WAY, but names may be told -/
def WAZ (d : Int32) (T : Nat) (p f k y z : Int) (S : CS) (s : RS) (P : CS) (q : RS) : Prop := ENV d P q ∧ tpI q = (T : Int) ∧ FRB T s q ∧ (TBR s q ∧ CDK (s.i 20).toInt s q ∧ NMO s q) ∧ CKZ S P ∧ (P.i 38 = S.i 38 ∧ P.i 53 = S.i 53 ∧ P.i 56 = S.i 56 ∧ P.i 36 = 1) ∧ ((s.i 11).toInt + p ≤ (q.i 11).toInt ∧ phI s + f ≤ phI q ∧ (s.i 17).toInt ≤ (q.i 17).toInt ∧ (q.i 19).toInt = (s.i 19).toInt + k) ∧ ((P.i 21).toInt + 2 * (s.i 11).toInt ≤ (S.i 21).toInt + 2 * (q.i 11).toInt + y ∧ (P.i 54).toInt + (s.i 11).toInt + z ≤ (S.i 54).toInt + (q.i 11).toInt ∧ 6 * (P.i 55).toInt + (s.i 11).toInt ≤ 6 * (S.i 55).toInt + (q.i 11).toInt) ∧ ((s.i 38).toInt ≤ (q.i 38).toInt ∧ (8 * ((s.i 38).toInt - 2) ≤ (s.i 11).toInt → 8 * ((q.i 38).toInt - 2) ≤ (q.i 11).toInt))
theorem WAY.z {d : Int32} {T : Nat} {p f k y z : Int} {S P : CS} {s q : RS} (h : WAY d T p f k y z S s P q) (hp : 0 ≤ p) : WAZ d T p f k y z S s P q := by
  obtain ⟨h1, h2, h3, h4, h5, ⟨i1, i2, i3, i4, i5⟩, h6, h10⟩ := h
  obtain ⟨t1, t2, t3, t4, t5, t6, t7, t8, t9, t10⟩ := h4.1.1
  exact ⟨h1, h2, h3, ⟨h4.1.r, h4.2, ⟨t1, t2, t3, t5, t6, t7, t8, t9, t10⟩⟩, h5, ⟨i1, i3, i4, i5⟩, h6, h10, by rw [t4]; exact Int.le_refl _, fun z => by rw [t4]; omega⟩
theorem COR.waz {d : Int32} {B : CS} {b : RS} {t0 T : Nat} {L : List CEL} {x p f k y z : Int} {S P : CS} {s q : RS} {c : CEL} (hC : COR d B b t0 (c :: L) x S s) (ht : TOP S s c) (lw : LOW S s c) (hw : T = ceT c + wid (S.o c.2.1 0)) (hT : t0 ≤ T) (w : WAZ d T p f k y z S s P q) (n : 0 ≤ p ∧ 0 ≤ f ∧ y ≤ 0 ∧ 0 ≤ z ∧ k = 0) : COR d B b t0 (c :: L) x P q ∧ TOP P q c ∧ LOW P q c ∧ P.o c.2.1 = S.o c.2.1 := by
  obtain ⟨h1, h2, h3, ⟨h4, hcd, hnm⟩, h5, ⟨i1, i3, i4, i5⟩, ⟨h6, h7, h8, h9⟩, ⟨h10, h11, h12⟩, ⟨h13, h14⟩⟩ := w
  have hin := hC.inl ht hw
  have eo := (hin.o h5 c List.mem_cons_self).1
  have n8 := hC.2.2.2.2.2.2.2.2.1.2.1
  have k11 := hC.1.1.2.2.2.1.1
  have k11' := h1.1.2.2.2.1.1
  have rt : RTE S P := by
    unfold RTE
    rw [k11, k11']
    exact ⟨by omega, by omega, by omega⟩
  exact ⟨hC.mv hin hT h1 h3 h4 hcd hnm h5 ⟨i1, i3, i4⟩ rt ⟨by omega, by omega, by omega, by omega⟩ (h14 n8) h13, ht.mv eo i3 hnm.2.2.2.1 hnm.2.2.2.2.2.1, lw.mv eo h3 (by omega), eo⟩
