/-! both readers: the LIST frame of the row on top -/
/-- only the frame T0 is other, and not its sort -/
def FT0 (T0 : Nat) (s u : RS) : Prop := u.i = s.i ∧ u.l = s.l ∧ (∀ k : Nat, k ≠ 74 → u.b k = s.b k) ∧ (∀ j : Nat, j ≠ T0 → u.b 74 j = s.b 74 j) ∧ (∀ k : Nat, ¬ (65 ≤ k ∧ k ≤ 73) → u.a k = s.a k) ∧ ∀ k j : Nat, j ≠ T0 → u.a k j = s.a k j
theorem RFR.f0 {S : CS} {s u : RS} {a t g w T0 : Nat} (h : FT0 T0 s u) (n1 : ¬ isOne (S.o a 0)) (n5 : ¬ S.o a 0 = 305) (hT : T0 + 1 = t + wid (S.o a 0)) (r : RFR S s a t g w) : RFR S u a t g w := by
  obtain ⟨hi, hl, hb, hb4, ha, hf⟩ := h
  have f64 := ha 64 (by decide)
  have f44 := ha 44 (by decide)
  obtain ⟨r0, r1, r2, r3, r4, r5, r6, r7, r8, r9, r10, r11, r12⟩ := r
  have no : ∀ v : Int32, isOne v → ¬ S.o a 0 = v := fun v hv z => n1 (by rw [z]; exact hv)
  refine ⟨fun z => by rw [f64]; exact r0 z, fun z => ?_, fun z => ?_, fun z => absurd z (no 303 (by unfold isOne; decide)), fun z => absurd z (no 203 (by unfold isOne; decide)), fun z => absurd z (no 204 (by unfold isOne; decide)), fun z => absurd z (no 205 (by unfold isOne; decide)), fun z => absurd z (no 206 (by unfold isOne; decide)), fun z => absurd z (no 207 (by unfold isOne; decide)), fun z => absurd z (no 304 (by unfold isOne; decide)), fun z => ?_, fun z => ?_, fun z => ?_⟩
  · have wd : wid (S.o a 0) = 2 := by rw [z]; rfl
    have y := r1 z
    unfold F301 FBL at *
    rw [f64, hf 65 t (by omega), hf 66 t (by omega)]
    exact y
  · have wd : wid (S.o a 0) = 2 := by rw [z]; rfl
    have y := r2 z
    unfold F302 at *
    rw [f64, hf 65 t (by omega), hf 71 t (by omega)]
    exact y
  · have wd : wid (S.o a 0) = 3 := by rw [z]; rfl
    have y := r10 z
    unfold F212 F301 FBL at *
    rw [f64, hf 65 t (by omega), hf 65 (t + 1) (by omega), hf 66 (t + 1) (by omega)]
    exact y
  · have wd : wid (S.o a 0) = 2 := by rw [z]; rfl
    have y := r11 z
    unfold F218 at *
    rw [f64, f44, hf 72 t (by omega), hf 71 t (by omega), hf 68 t (by omega)]
    exact y
  · have wd : wid (S.o a 0) = 3 := by
      rcases z with k | k | k | k
      · rw [k]; rfl
      · rw [k]; rfl
      · exact absurd k n5
      · rw [k]; rfl
    have y := r12 z
    unfold FTR FTS F301 FBL at *
    rw [f64, hi, ha 57 (by decide), ha 58 (by decide), hf 65 t (by omega), hf 66 t (by omega), hf 67 t (by omega), hf 68 t (by omega), hf 71 t (by omega), hf 72 t (by omega), hf 65 (t + 1) (by omega), hf 66 (t + 1) (by omega)]
    exact y
set_option maxHeartbeats 2000000 in
theorem COR.f0 {d : Int32} {B : CS} {b : RS} {t0 T0 : Nat} {L : List CEL} {x : Int} {S : CS} {s u : RS} {c : CEL} (h : COR d B b t0 (c :: L) x S s) (tp : TOP S s c) (n1 : ¬ isOne (S.o c.2.1 0)) (n5 : ¬ S.o c.2.1 0 = 305) (hT0 : T0 + 1 = ceT c + wid (S.o c.2.1 0)) (hT : t0 ≤ T0) (ev : ENV d S u) (g : FT0 T0 s u) : COR d B b t0 (c :: L) x S u := by
  have hin0 := h.inl tp (T := ceT c + wid (S.o c.2.1 0)) rfl
  obtain ⟨h1, h2, h3, h4, h5, ⟨h6, h7, h8, h9⟩, ⟨h10, h11, h12, hsg⟩, h13, ⟨h14, h15, h16⟩, h17, ⟨h18, h19, h20, col, h21⟩⟩ := h
  obtain ⟨gi, gl, gb, gb4, ga, gf⟩ := id g
  have w1 := wid1 (S.o c.2.1 0)
  obtain ⟨m', e', k', c1s, lkl, stl⟩ := id h2
  obtain ⟨s1, s2, s3, s4, s5, s6, s7⟩ := c1s
  have hinL : INL S s (ceT c) L := by
    cases L with
    | nil => exact fun y hy => absurd hy List.not_mem_nil
    | cons c0 L1 =>
      obtain ⟨lk, lw⟩ := lkl c0 rfl
      have z := STK.inl L1 c0 _ _ _ stl (by have := tp.1; have := lk.1; omega) (by have := tp.2.1; have := lk.2.2.1; omega) (by have := tp.2.2; have := lk.2.2.2.1; omega)
      rw [← lk.2.1] at z
      exact z
  have fr : FRB T0 s u := fun j hj => ⟨gf 64 j (by omega), gf 65 j (by omega), gf 66 j (by omega), gf 67 j (by omega), gf 68 j (by omega), gf 69 j (by omega), gf 70 j (by omega), gf 71 j (by omega), gf 72 j (by omega), gf 73 j (by omega), gb4 j (by omega)⟩
  have tb : TBR s u := by
    unfold TBR
    rw [gi, gb 39 (by decide), gb 45 (by decide), ga 40 (by decide), ga 41 (by decide), ga 44 (by decide), ga 46 (by decide), ga 47 (by decide), ga 50 (by decide), ga 51 (by decide), ga 48 (by decide), ga 49 (by decide), ga 57 (by decide), ga 58 (by decide), ga 60 (by decide), ga 61 (by decide), ga 62 (by decide), ga 30 (by decide), ga 34 (by decide), ga 37 (by decide), ga 25 (by decide), ga 27 (by decide), ga 28 (by decide)]
    exact ⟨fun _ _ => ⟨rfl, rfl, rfl⟩, fun _ _ => ⟨rfl, rfl, rfl, rfl, rfl, rfl, rfl, rfl⟩, fun _ _ => ⟨rfl, rfl⟩, ⟨Int.le_refl _, fun j k1 k2 => by omega⟩, fun _ _ => ⟨rfl, rfl, rfl⟩, Int.le_refl _, fun _ _ => rfl, Int.le_refl _, fun _ _ => ⟨rfl, rfl⟩, Int.le_refl _, fun _ _ => ⟨rfl, rfl, rfl⟩⟩
  have cd : CDK (s.i 20).toInt s u := ⟨by rw [gi]; exact Int.le_refl _, fun j _ => by rw [ga 22 (by decide)]⟩
  have bm : m' ≤ (S.i 22).toInt ∧ e' ≤ (s.i 24).toInt ∧ k' ≤ (s.i 33).toInt := by
    refine ⟨?_, ?_, ?_⟩
    · by_cases z : S.o c.2.1 0 = 218
      · obtain ⟨em, -, -, M, y1, -⟩ := s5 z
        exact y1.2.1.1
      · rw [(s4 z).1]
        exact Int.le_refl _
    · by_cases z : S.o c.2.1 0 = 218
      · exact (s5 z).2.1
      · rw [(s4 z).2]
        exact Int.le_refl _
    · by_cases z : isTy (S.o c.2.1 0)
      · exact (s7 z).1
      · rw [s6 z]
        exact Int.le_refl _
  have stL : STK S u L m' e' k' := STK.mv (CKZ.rf S) (fr.mo (by omega)) tb cd L _ _ _ stl hinL bm.1 bm.2.1 bm.2.2
  -- the frames that rows look at
  have ne : ∀ y ∈ c :: L, (isTy (S.o y.2.1 0) ∨ S.o y.2.1 0 = 218) → ¬ ceT y = T0 := fun y hy t z => by
    rcases List.mem_cons.mp hy with w | hy2
    · rw [w] at t z
      have wd : 2 ≤ wid (S.o c.2.1 0) := by
        rcases t with (k | k | k | k) | k
        · rw [k]; decide
        · rw [k]; decide
        · exact absurd k n5
        · rw [k]; decide
        · rw [k]; decide
      omega
    · have a := (hinL y hy2).2.2.1
      have w := wid1 (S.o y.2.1 0)
      omega
  have cst : CST S u c (S.i 22).toInt (u.i 24).toInt (u.i 33).toInt m' e' k' := by
    rw [gi]
    refine ⟨s1, s2, s3.f0 g n1 n5 hT0, s4, fun z => ?_, s6, fun z => ?_⟩
    · obtain ⟨x1, x2, x3, M, y1, y2, y3, y4⟩ := s5 z
      have nt := ne c List.mem_cons_self (Or.inr z)
      rw [gf 66 _ nt, ga 22 (by decide), gi]
      refine ⟨x1, x2, x3, M, ?_, chn.up (by rw [gi]; exact Int.le_refl _) (fun j _ => by rw [ga 27 (by decide)]) M _ y2, ?_, y4⟩
      · unfold CSM at *
        rw [ga 28 (by decide), ga 25 (by decide)]
        exact y1
      · unfold FQL at *
        rw [gf 67 _ nt]
        exact y3
    · obtain ⟨x1, M, y1, y2, y3, y4⟩ := s7 z
      have nt := ne c List.mem_cons_self (Or.inl z)
      rw [gf 66 _ nt, ga 30 (by decide), gf 72 _ nt]
      refine ⟨x1, M, kch.eq (by rw [gi]) (ga 37 (by decide)) y1, ?_, y3, y4⟩
      unfold KMK at *
      rw [ga 34 (by decide)]
      exact y2
  have st : STK S u (c :: L) (S.i 22).toInt (u.i 24).toInt (u.i 33).toInt := ⟨m', e', k', cst, fun c0 hc0 => by
    obtain ⟨z1, z2⟩ := lkl c0 hc0
    refine ⟨z1, z2.mv rfl (fr.mo (t' := ceT c) (by omega)) ?_⟩
    rw [z1.2.1]
    exact Nat.le_refl _, stL⟩
  have jq : JMQ S u (c :: L) (b.i 59).toInt (b.i 29).toInt := by
    have f50 := ga 50 (by decide)
    have f51 := ga 51 (by decide)
    have f60 := ga 60 (by decide)
    have f61 := ga 61 (by decide)
    have f62 := ga 62 (by decide)
    have f66 : ∀ y ∈ c :: L, isTy (S.o y.2.1 0) → u.a 66 (ceT y) = s.a 66 (ceT y) := fun y hy t => gf 66 _ (ne y hy (Or.inl t))
    unfold JMQ RCD PND SAF INR flg at *
    rw [gi, f50, f51, f60, f61, f62]
    obtain ⟨h1, h2, h3, h4, h5, h6, h7, h8⟩ := h3
    refine ⟨fun c hc g b hb i r => ?_, h2, fun k hk q hq t z => ?_, fun k k1 k2 => ?_, fun q hq t => ?_, fun q hq p hp t1 t2 l => ?_, h7, h8⟩
    · rcases h1 c hc g b hb i r with z | ⟨k, q, hq, t, l, ⟨p1, p2, p3, p4⟩, w⟩
      · exact Or.inl z
      · exact Or.inr ⟨k, q, hq, t, l, ⟨p1, p2, p3, by rw [f66 q hq t]; exact p4⟩, w⟩
    · rw [f66 q hq t] at z
      obtain ⟨c, hc, g, l, b, hb, ⟨p1, p2, p3, p4⟩, w⟩ := h3 k hk q hq t z
      exact ⟨c, hc, g, l, b, hb, ⟨p1, p2, p3, by rw [f66 q hq t]; exact p4⟩, w⟩
    · rcases h4 k k1 k2 with z | ⟨q, hq, t, z⟩
      · exact Or.inl z
      · exact Or.inr ⟨q, hq, t, by rw [f66 q hq t]; exact z⟩
    · rw [f66 q hq t]
      exact h5 q hq t
    · rw [f66 q hq t1, f66 p hp t2]
      exact h6 q hq p hp t1 t2 l
  have phu : phI u = phI s := by
    unfold phI
    rw [gi]
  refine ⟨ev, st, jq, LBC.mv (c :: L) x h4 (fun _ _ => rfl) (fun y _ _ => by rw [ga 46 (by decide)]), h5, ⟨h6.tr (fr.mo hT), h7.mv tb (by rw [gi]; exact h7.1) (by rw [gi]; exact h7.2.1) (by rw [gi]; exact h7.2.2.1), h8.tr (cd.wk h8.1), ⟨by rw [gi]; exact h9.1, by rw [gi]; exact h9.2.1, by rw [gi]; exact h9.2.2.1, (ga 1 (by decide)).trans h9.2.2.2.1, (ga 4 (by decide)).trans h9.2.2.2.2.1, (gb 9 (by decide)).trans h9.2.2.2.2.2⟩⟩, ⟨by rw [gi]; exact h10, by rw [phu]; exact h11, by rw [gi]; exact h12, by rw [gi]; exact hsg⟩, ⟨h13.1, h13.2.1, h13.2.2.1, h13.2.2.2.1, fun y hy => ⟨fun t z => ?_, fun t z => ?_⟩⟩, ⟨by rw [gi]; exact h14, by rw [gi]; exact h15, by rw [gi]; exact h16⟩, ?_, h18, h19, h20, col, ?_⟩
  · rw [gf 72 _ (ne y hy (Or.inl t))] at z ⊢
    exact (h13.2.2.2.2 y hy).1 t z
  · rw [gf 67 _ (ne y hy (Or.inr t))] at z ⊢
    exact (h13.2.2.2.2 y hy).2 t z
  · unfold IAR at *
    rw [gi, ga 44 (by decide)]
    exact h17
  · obtain ⟨g1, g2, g3, g4, g5, g6, g7⟩ := h21
    have f66 : ∀ y ∈ c :: L, S.o y.2.1 0 = 218 → u.a 66 (ceT y) = s.a 66 (ceT y) := fun y hy t => gf 66 _ (ne y hy (Or.inr t))
    refine ⟨fun k x e => by rw [gi]; exact g1 k x e, fun k x e => by rw [ga 22 (by decide)]; exact g2 k x e, fun y hy t => by rw [ga 48 (by decide), ga 49 (by decide)]; exact g3 y hy t, g4, fun y hy t => by rw [f66 y hy t, gi]; exact g5 y hy t, fun y hy z hz t1 t2 l => by rw [f66 y hy t1, f66 z hz t2]; exact g6 y hy z hz t1 t2 l, fun y hy k p => ?_⟩
    have p' : PLF S s y k := by
      rcases List.mem_cons.mp hy with w | hy2
      · exfalso
        rw [w] at p
        have no : ∀ v : Int32, isOne v → ¬ S.o c.2.1 0 = v := fun v hv z => n1 (by rw [z]; exact hv)
        unfold PLF at p
        rcases p with ⟨z | z, -⟩ | ⟨z, -⟩ | ⟨z | z, -⟩
        · exact no 203 (by unfold isOne; decide) z
        · exact no 304 (by unfold isOne; decide) z
        · exact no 204 (by unfold isOne; decide) z
        · exact no 205 (by unfold isOne; decide) z
        · exact no 207 (by unfold isOne; decide) z
      · have a := (hinL y hy2).2.2.1
        have w := wid1 (S.o y.2.1 0)
        have fy := fr (ceT y) (by omega)
        unfold PLF at *
        rw [fy.2.2.1, fy.2.2.2.1, fy.2.2.2.2.1] at p
        exact p
    obtain ⟨z1, z2, z3, z4⟩ := g7 y hy k p'
    exact ⟨z1, by rw [gi]; exact z2, z3, fun w hw t => by rw [f66 w hw t]; exact z4 w hw t⟩
