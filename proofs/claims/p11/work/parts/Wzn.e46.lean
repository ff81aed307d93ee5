/-! both readers: where the labels of a loop go -/
/-- all but the labels' loops is the same -/
def E46 (s u : RS) : Prop := u.i = s.i ∧ u.l = s.l ∧ u.b = s.b ∧ ∀ k : Nat, k ≠ 46 → u.a k = s.a k
theorem E46.rf (s : RS) : E46 s s := ⟨rfl, rfl, rfl, fun _ _ => rfl⟩
theorem E46.tr {s u w : RS} (h : E46 s u) (g : E46 u w) : E46 s w := ⟨g.1.trans h.1, g.2.1.trans h.2.1, g.2.2.1.trans h.2.2.1, fun k hk => (g.2.2.2 k hk).trans (h.2.2.2 k hk)⟩
def s46 (s : RS) (f : Nat → Int32) : RS := (s.i, s.l, va_up s.a 46 f, s.b)
theorem s46.at {s : RS} {f : Nat → Int32} : (s46 s f).a 46 = f := by
  show va_up s.a 46 f 46 = f
  unfold va_up
  exact if_pos rfl
theorem s46.e {s : RS} {f : Nat → Int32} : E46 s (s46 s f) := ⟨rfl, rfl, rfl, fun k hk => if_neg hk⟩
theorem chn.e46 {s u : RS} (h : E46 s u) : ∀ (L : List Nat) (k : Int32), chn s k L → chn u k L
  | [], _, g => g
  | j :: L, k, g => ⟨g.1, by rw [h.1]; exact g.2.1, g.2.2.1, by rw [h.2.2.2 27 (by decide)]; exact chn.e46 h L _ g.2.2.2⟩
theorem kch.e46 {s u : RS} (h : E46 s u) : ∀ (L : List Nat) (k : Int32), kch s k L → kch u k L
  | [], _, g => g
  | j :: L, k, g => ⟨g.1, by rw [h.1]; exact g.2.1, g.2.2.1, by rw [h.2.2.2 37 (by decide)]; exact kch.e46 h L _ g.2.2.2⟩
theorem RFR.e46 {S : CS} {s u : RS} {a t g w : Nat} (h : E46 s u) (r : RFR S s a t g w) : RFR S u a t g w := by
  have a64 := h.2.2.2 64 (by decide)
  have a65 := h.2.2.2 65 (by decide)
  have a66 := h.2.2.2 66 (by decide)
  have a67 := h.2.2.2 67 (by decide)
  have a68 := h.2.2.2 68 (by decide)
  have a71 := h.2.2.2 71 (by decide)
  have a72 := h.2.2.2 72 (by decide)
  have a73 := h.2.2.2 73 (by decide)
  have a44 := h.2.2.2 44 (by decide)
  have a57 := h.2.2.2 57 (by decide)
  have a58 := h.2.2.2 58 (by decide)
  unfold RFR F301 F302 F303 F203 F204 F205 F206 F207 F304 F212 F301 F218 FTR FTS F301 FBL at *
  rw [a64, a65, a66, a67, a68, a71, a72, a73, a44, a57, a58, h.1, h.2.2.1]
  exact r
theorem CST.e46 {S : CS} {s u : RS} {c : CEL} {m e k m' e' k' : Int} (h : E46 s u) (g : CST S s c m e k m' e' k') : CST S u c m e k m' e' k' := by
  obtain ⟨g1, g2, g3, g4, g5, g6, g7⟩ := g
  have a66 := h.2.2.2 66 (by decide)
  refine ⟨g1, g2, g3.e46 h, g4, fun q => ?_, g6, fun q => ?_⟩
  · obtain ⟨x1, x2, x3, L, y1, y2, y3, y4⟩ := g5 q
    rw [a66, h.2.2.2 22 (by decide), h.1]
    refine ⟨x1, x2, x3, L, ?_, chn.e46 h _ _ y2, ?_, y4⟩
    · unfold CSM at *
      rw [h.2.2.2 28 (by decide), h.2.2.2 25 (by decide)]
      exact y1
    · unfold FQL at *
      rw [h.2.2.2 67 (by decide)]
      exact y3
  · obtain ⟨x1, L, y1, y2, y3, y4⟩ := g7 q
    rw [a66, h.2.2.2 30 (by decide), h.2.2.2 72 (by decide)]
    refine ⟨x1, L, kch.e46 h _ _ y1, ?_, y3, y4⟩
    unfold KMK at *
    rw [h.2.2.2 34 (by decide)]
    exact y2
theorem LOW.e46 {S : CS} {s u : RS} {c : CEL} (h : E46 s u) (g : LOW S s c) : LOW S u c := by
  unfold LOW at *
  rw [h.2.2.2 65 (by decide), h.2.2.2 64 (by decide)]
  exact g
theorem STK.e46 {S : CS} {s u : RS} (h : E46 s u) : ∀ (L : List CEL) (m e k : Int), STK S s L m e k → STK S u L m e k
  | [], _, _, _, _ => trivial
  | c :: L, m, e, k, g => by
    obtain ⟨m', e', k', g1, g2, g3⟩ := g
    exact ⟨m', e', k', g1.e46 h, fun c0 hc => ⟨(g2 c0 hc).1, (g2 c0 hc).2.e46 h⟩, STK.e46 h L m' e' k' g3⟩
theorem JMQ.e46 {S : CS} {s u : RS} {L : List CEL} {B59 B29 : Int} (h : E46 s u) (g : JMQ S s L B59 B29) : JMQ S u L B59 B29 := by
  unfold JMQ flg PND at *
  rw [h.2.2.2 50 (by decide), h.2.2.2 51 (by decide), h.2.2.2 60 (by decide), h.2.2.2 61 (by decide), h.2.2.2 62 (by decide), h.2.2.2 66 (by decide), h.1]
  exact g
theorem COL.e46 {S : CS} {s u : RS} {L : List CEL} {col : Nat → Option (Nat × Bool)} {b20 : Int} (h : E46 s u) (g : COL S s L col b20) : COL S u L col b20 := by
  unfold COL PLF at *
  rw [h.2.2.2 22 (by decide), h.2.2.2 48 (by decide), h.2.2.2 49 (by decide), h.2.2.2 66 (by decide), h.2.2.2 67 (by decide), h.2.2.2 68 (by decide), h.1]
  exact g
theorem ENV.e46 {d : Int32} {S : CS} {s u : RS} (h : E46 s u) (g : ENV d S s) : ENV d S u := by
  obtain ⟨ei, el, eb, ea⟩ := h
  refine g.kq (by rw [ei]) (by rw [ei]) (by rw [ei]) (by rw [ei]) (by rw [ei]) (by rw [ei]) (by rw [ei]) (ea 1 (by decide)) (ea 4 (by decide)) (ea 41 (by decide)) (by rw [eb]) (by rw [eb]) (by rw [ei]) (by rw [ei]) (by rw [ei]) (by rw [ei]) (by rw [ei]) (by rw [ei]) (by rw [ei]) el ?_ ?_
  · unfold phI
    rw [ei]
    exact ⟨g.2.2.2.2.2.2.1, g.2.2.2.2.2.2.2.1⟩
  · have w := g.wp
    unfold WPI at *
    rw [ei, ea 58 (by decide), ea 62 (by decide)]
    exact w
/-- the labels at the top get another loop -/
theorem COR.e46 {d : Int32} {B : CS} {b : RS} {t0 : Nat} {L : List CEL} {x x' : Int} {S : CS} {s u : RS} (h : COR d B b t0 L x S s) (g : E46 s u) (hb : ∀ j : Nat, (j : Int) < (b.i 43).toInt → u.a 46 j = s.a 46 j) (lb : LBC S u L x') : COR d B b t0 L x' S u := by
  obtain ⟨h1, h2, h3, h4, h5, ⟨h6, h7, h8, h9⟩, h10, h13, h14, h17, ⟨h18, h19, h20, col, h21⟩⟩ := h
  obtain ⟨ei, el, eb, ea⟩ := id g
  refine ⟨h1.e46 g, ?_, h3.e46 g, lb, h5, ⟨?_, ?_, ?_, ?_⟩, ?_, ⟨h13.1, h13.2.1, h13.2.2.1, h13.2.2.2.1, fun y hy => ⟨fun t z => by rw [g.2.2.2 72 (by decide)] at z ⊢; exact (h13.2.2.2.2 y hy).1 t z, fun t z => by rw [g.2.2.2 67 (by decide)] at z ⊢; exact (h13.2.2.2.2 y hy).2 t z⟩⟩, ?_, ?_, h18, h19, h20, col, h21.e46 g⟩
  · rw [ei]
    exact STK.e46 g _ _ _ _ h2
  · intro j hj
    have z := h6 j hj
    rw [ea 64 (by decide), ea 65 (by decide), ea 66 (by decide), ea 67 (by decide), ea 68 (by decide), ea 69 (by decide), ea 70 (by decide), ea 71 (by decide), ea 72 (by decide), ea 73 (by decide), eb]
    exact z
  · obtain ⟨a1, a2, a3, p0, p1, p2, p3, p4, p5, p6, p7, p8, p9, p10⟩ := h7
    unfold TBB
    rw [ei, eb, ea 40 (by decide), ea 41 (by decide), ea 44 (by decide), ea 47 (by decide), ea 48 (by decide), ea 49 (by decide), ea 50 (by decide), ea 51 (by decide), ea 57 (by decide), ea 58 (by decide), ea 60 (by decide), ea 61 (by decide), ea 62 (by decide), ea 30 (by decide), ea 34 (by decide), ea 37 (by decide), ea 25 (by decide), ea 27 (by decide), ea 28 (by decide)]
    exact ⟨a1, a2, a3, p0, fun j hj => by rw [hb j hj]; exact p1 j hj, p2, p3, p4, p5, p6, p7, p8, p9, p10⟩
  · unfold CDK at *
    rw [ei, ea 22 (by decide)]
    exact h8
  · rw [ei, eb, ea 1 (by decide), ea 4 (by decide)]
    exact h9
  · unfold phI at *
    rw [ei]
    exact h10
  · rw [ei]
    exact h14
  · unfold IAR at *
    rw [ei, ea 44 (by decide)]
    exact h17
