/-! both readers: a jump more -/
/-- the row at the bottom: its walls, its serial -/
def BO2 (B : CS) (b : RS) (S : CS) : List CEL → Prop
  | [] => False
  | [c] => ¬ isTy (S.o c.2.1 0) ∧ (b.i 56).toInt = (ceW c : Int) ∧ (B.i 54).toInt ≤ (S.o c.2.1 1).toInt ∧ (0 < (b.i 56).toInt → (b.a 58 ((b.i 56).toInt - 1).toNat).toInt ≤ (b.i 43).toInt)
  | _ :: c0 :: L => BO2 B b S (c0 :: L)
theorem BO2.mv {B : CS} {b : RS} {S R : CS} : ∀ (L : List CEL), BO2 B b S L → (∀ y ∈ L, R.o y.2.1 = S.o y.2.1) → BO2 B b R L
  | [], h, _ => h
  | [c], h, e => by
    obtain ⟨h1, h2, h3, h4⟩ := h
    refine ⟨?_, h2, ?_, h4⟩
    · rw [e c List.mem_cons_self]
      exact h1
    · rw [e c List.mem_cons_self]
      exact h3
  | _ :: c0 :: L, h, e => BO2.mv (c0 :: L) h (fun y hy => e y (List.mem_cons_of_mem _ hy))
theorem nWl1 {v : Int32} (h : isWl v) : nWl v = 1 := by
  unfold nWl
  exact if_pos h
theorem isWl.ty {v : Int32} (h : isWl v) : isTy v := by
  rcases h with h | h | h
  · exact Or.inl h
  · exact Or.inr (Or.inl h)
  · exact Or.inr (Or.inr (Or.inl h))
/-- the wall at the top -/
theorem WLT {B : CS} {b : RS} {S : CS} {s : RS} : ∀ (L : List CEL) (c : CEL) (m e k : Int), STK S s (c :: L) m e k → BO2 B b S (c :: L) → (∃ q ∈ c :: L, isWl (S.o q.2.1 0) ∧ ceW q + 1 = ceW c + nWl (S.o c.2.1 0) ∧ ∀ y ∈ c :: L, q.1 < y.1 → ¬ isWl (S.o y.2.1 0)) ∨ ((∀ y ∈ c :: L, ¬ isWl (S.o y.2.1 0)) ∧ (b.i 56).toInt = (ceW c : Int) + (nWl (S.o c.2.1 0) : Int) ∧ (0 < (b.i 56).toInt → (b.a 58 ((b.i 56).toInt - 1).toNat).toInt ≤ (b.i 43).toInt))
  | L, c, m, e, k, st, hb => by
    have ord := STK.ord L c m e k st
    by_cases cw : isWl (S.o c.2.1 0)
    · have n1 := nWl1 cw
      refine Or.inl ⟨c, List.mem_cons_self, cw, by omega, fun y hy l => ?_⟩
      rcases List.mem_cons.mp hy with e0 | hy
      · rw [e0] at l
        omega
      · have := ord y hy
        omega
    · have n0 := nWl.eq cw
      cases L with
      | nil =>
        obtain ⟨h1, h2, h3, h4⟩ := hb
        refine Or.inr ⟨fun y hy => ?_, by omega, h4⟩
        rcases List.mem_cons.mp hy with rfl | hy
        · exact cw
        · exact absurd hy List.not_mem_nil
      | cons c0 L =>
        obtain ⟨m', e', k', h1, h2, h3⟩ := st
        obtain ⟨l1, -⟩ := h2 c0 rfl
        have l5 := l1.2.2.2.1
        rcases WLT L c0 m' e' k' h3 hb with ⟨q, hq, q1, q2, q3⟩ | ⟨q1, q2, q3⟩
        · refine Or.inl ⟨q, List.mem_cons_of_mem _ hq, q1, by omega, fun y hy l => ?_⟩
          rcases List.mem_cons.mp hy with rfl | hy
          · exact cw
          · exact q3 y hy l
        · refine Or.inr ⟨fun y hy => ?_, by omega, q3⟩
          rcases List.mem_cons.mp hy with rfl | hy
          · exact cw
          · exact q1 y hy
theorem BO2.ge {B : CS} {b : RS} {S : CS} {s : RS} : ∀ (L : List CEL) (c : CEL) (m e k : Int), STK S s (c :: L) m e k → BO2 B b S (c :: L) → (B.i 54).toInt ≤ (S.o c.2.1 1).toInt
  | [], _, _, _, _, _, h => h.2.2.1
  | c0 :: L, c, m, e, k, st, h => by
    obtain ⟨m', e', k', h1, h2, h3⟩ := st
    obtain ⟨l1, -⟩ := h2 c0 rfl
    have ih := BO2.ge L c0 m' e' k' h3 h
    have := l1.2.2.2.2.1
    omega
theorem BO2.ser {B : CS} {b : RS} {S : CS} {s : RS} : ∀ (L : List CEL) (c : CEL) (m e k : Int), STK S s (c :: L) m e k → BOT b S (c :: L) → BO2 B b S (c :: L) → ∀ y ∈ c :: L, isGo (S.o y.2.1 0) → (B.i 54).toInt < (S.o y.2.1 1).toInt
  | [], c, _, _, _, _, hb, _, y, hy, gy => by
    rcases List.mem_cons.mp hy with rfl | hy
    · exact absurd gy hb.1
    · exact absurd hy List.not_mem_nil
  | c0 :: L, c, m, e, k, st, hb, h, y, hy, gy => by
    obtain ⟨m', e', k', h1, h2, h3⟩ := st
    obtain ⟨l1, -⟩ := h2 c0 rfl
    have ge := BO2.ge L c0 m' e' k' h3 h
    rcases List.mem_cons.mp hy with e0 | hy
    · have := l1.2.2.2.2.1
      rw [e0]
      omega
    · exact BO2.ser L c0 m' e' k' h3 hb h y hy gy
/-- all but heads, flags and what waits is the same -/
def EJF (s u : RS) : Prop := (∀ k : Nat, k ≠ 59 → u.i k = s.i k) ∧ u.l = s.l ∧ u.b = s.b ∧ ∀ k : Nat, k ≠ 48 → k ≠ 49 → k ≠ 50 → k ≠ 51 → k ≠ 60 → k ≠ 61 → k ≠ 62 → u.a k = s.a k
theorem EJF.A {s u : RS} (h : EJF s u) (k : Nat) (h1 : k < 48 ∨ (51 < k ∧ k < 60) ∨ 62 < k) : u.a k = s.a k := h.2.2.2 k (by omega) (by omega) (by omega) (by omega) (by omega) (by omega) (by omega)
theorem chn.ej {s u : RS} (h : EJF s u) : ∀ (L : List Nat) (k : Int32), chn s k L → chn u k L
  | [], _, g => g
  | j :: L, k, g => ⟨g.1, by rw [h.1 24 (by decide)]; exact g.2.1, g.2.2.1, by rw [h.A 27 (by decide)]; exact chn.ej h L _ g.2.2.2⟩
theorem kch.ej {s u : RS} (h : EJF s u) : ∀ (L : List Nat) (k : Int32), kch s k L → kch u k L
  | [], _, g => g
  | j :: L, k, g => ⟨g.1, by rw [h.1 33 (by decide)]; exact g.2.1, g.2.2.1, by rw [h.A 37 (by decide)]; exact kch.ej h L _ g.2.2.2⟩
theorem RFR.ej {S : CS} {s u : RS} {a t g w : Nat} (h : EJF s u) (r : RFR S s a t g w) : RFR S u a t g w := by
  have a64 := h.A 64 (by decide)
  have a65 := h.A 65 (by decide)
  have a66 := h.A 66 (by decide)
  have a67 := h.A 67 (by decide)
  have a68 := h.A 68 (by decide)
  have a71 := h.A 71 (by decide)
  have a72 := h.A 72 (by decide)
  have a73 := h.A 73 (by decide)
  have a44 := h.A 44 (by decide)
  have a57 := h.A 57 (by decide)
  have a58 := h.A 58 (by decide)
  unfold RFR F301 F302 F303 F203 F204 F205 F206 F207 F304 F212 F301 F218 FTR FTS F301 FBL at *
  rw [a64, a65, a66, a67, a68, a71, a72, a73, a44, a57, a58, h.1 29 (by decide), h.2.2.1]
  exact r
theorem CST.ej {S : CS} {s u : RS} {c : CEL} {m e k m' e' k' : Int} (h : EJF s u) (g : CST S s c m e k m' e' k') : CST S u c m e k m' e' k' := by
  obtain ⟨g1, g2, g3, g4, g5, g6, g7⟩ := g
  have a66 := h.A 66 (by decide)
  refine ⟨g1, g2, g3.ej h, g4, fun q => ?_, g6, fun q => ?_⟩
  · obtain ⟨x1, x2, x3, L, y1, y2, y3, y4⟩ := g5 q
    rw [a66, h.A 22 (by decide), h.1 20 (by decide)]
    refine ⟨x1, x2, x3, L, ?_, chn.ej h _ _ y2, ?_, y4⟩
    · unfold CSM at *
      rw [h.A 28 (by decide), h.A 25 (by decide)]
      exact y1
    · unfold FQL at *
      rw [h.A 67 (by decide)]
      exact y3
  · obtain ⟨x1, L, y1, y2, y3, y4⟩ := g7 q
    rw [a66, h.A 30 (by decide), h.A 72 (by decide)]
    refine ⟨x1, L, kch.ej h _ _ y1, ?_, y3, y4⟩
    unfold KMK at *
    rw [h.A 34 (by decide)]
    exact y2
theorem LOW.ej {S : CS} {s u : RS} {c : CEL} (h : EJF s u) (g : LOW S s c) : LOW S u c := by
  unfold LOW at *
  rw [h.A 65 (by decide), h.A 64 (by decide)]
  exact g
theorem STK.ej {S : CS} {s u : RS} (h : EJF s u) : ∀ (L : List CEL) (m e k : Int), STK S s L m e k → STK S u L m e k
  | [], _, _, _, _ => trivial
  | c :: L, m, e, k, g => by
    obtain ⟨m', e', k', g1, g2, g3⟩ := g
    exact ⟨m', e', k', g1.ej h, fun c0 hc => ⟨(g2 c0 hc).1, (g2 c0 hc).2.ej h⟩, STK.ej h L m' e' k' g3⟩
/-- the class: rows and cases are the same -/
def CRQ (S R : CS) : Prop := R.r = S.r ∧ R.o = S.o ∧ R.ol = S.ol ∧ R.a 18 = S.a 18
theorem STK.cq {S R : CS} {s : RS} (h : CRQ S R) : ∀ (L : List CEL) (m e k : Int), STK S s L m e k → STK R s L m e k
  | [], _, _, _, _ => trivial
  | c :: L, m, e, k, g => by
    obtain ⟨m', e', k', g1, g2, g3⟩ := g
    obtain ⟨er, eo, eol, ea⟩ := id h
    refine ⟨m', e', k', ?_, fun c0 hc => ?_, STK.cq h L m' e' k' g3⟩
    · unfold CST RFR CSM at *
      rw [er, eo, eol, ea]
      exact g1
    · obtain ⟨z1, z2⟩ := g2 c0 hc
      unfold LNK LOW at *
      rw [eo]
      exact ⟨z1, z2⟩
theorem LBC.cq {S R : CS} {s u : RS} (ho : R.o = S.o) (ha : u.a 46 = s.a 46) (L : List CEL) (x : Int) (h : LBC S s L x) : LBC R u L x := LBC.mv L x h (fun _ _ => by rw [ho]) (fun _ _ _ => by rw [ha])
/-- what a jump does: to row w, its instruction at kk -/
def JHD (w : CEL) (bb : Int) (kk : Nat) (v u : RS) : Prop := (bb = 0 → u.a 48 = upd (v.a 48) (ceG w) (Int32.ofNat kk) ∧ u.a 49 = v.a 49 ∧ v.a 22 kk = v.a 48 (ceG w)) ∧ (bb = 1 → u.a 49 = upd (v.a 49) (ceG w) (Int32.ofNat kk) ∧ u.a 48 = v.a 48 ∧ v.a 22 kk = v.a 49 (ceG w))
def JFL (w : CEL) (bb : Int) (v u : RS) : Prop := ((v.i 56).toInt = 0 ∨ (v.a 58 ((v.i 56).toInt - 1).toNat).toInt ≤ (ceG w : Int)) ∧ u.i 59 = v.i 59 ∧ (u.a 60 = v.a 60 ∧ u.a 61 = v.a 61 ∧ u.a 62 = v.a 62) ∧ (bb = 0 → u.a 50 = upd (v.a 50) (ceG w) 1 ∧ u.a 51 = v.a 51) ∧ (bb = 1 → u.a 51 = upd (v.a 51) (ceG w) 1 ∧ u.a 50 = v.a 50)
def JPD (w : CEL) (bb : Int) (v u : RS) : Prop := (0 < (v.i 56).toInt ∧ (ceG w : Int) < (v.a 58 ((v.i 56).toInt - 1).toNat).toInt) ∧ (u.a 50 = v.a 50 ∧ u.a 51 = v.a 51) ∧ (0 ≤ (v.i 59).toInt ∧ (u.i 59).toInt = (v.i 59).toInt + 1) ∧ (∀ j : Nat, ¬ (j : Int) = (v.i 59).toInt → u.a 60 j = v.a 60 j ∧ u.a 61 j = v.a 61 j ∧ u.a 62 j = v.a 62 j) ∧ (∀ j : Nat, (j : Int) = (v.i 59).toInt → (u.a 60 j).toInt = (ceG w : Int) ∧ (¬ u.a 61 j = 0 ↔ bb = 0) ∧ u.a 62 j = v.a 57 ((v.i 56).toInt - 1).toNat)
theorem updA {f : Nat → Int32} {g j : Nat} {v : Int32} (h : j = g) : upd f g v j = v := if_pos h
theorem updN {f : Nat → Int32} {g j : Nat} {v : Int32} (h : ¬ j = g) : upd f g v j = f j := if_neg h
/-- the chains -/
theorem COL.jmp {X R : CS} {v u : RS} {K : List CEL} {col : Nat → Option (Nat × Bool)} {b20 : Int} {w : CEL} {bb : Int} {kk : Nat} (h : COL X v K col b20) (eo : R.o = X.o) (ej : EJF v u) (hb : bb = 0 ∨ bb = 1) (hd : JHD w bb kk v u) (k31 : kk < 2147483648) (ck : col kk = none) (cl : ∀ (j : Nat) (x : Nat × Bool), col j = some x → j < kk) (cf : ∀ q ∈ K, X.o q.2.1 0 = 218 → ¬ (kk : Int) = (v.a 66 (ceT q)).toInt) (cp : ∀ q ∈ K, ¬ PLF X v q (kk : Int)) (kr : b20 ≤ (kk : Int) ∧ (kk : Int) < (v.i 20).toInt) (b0 : 0 ≤ b20) (hw : w ∈ K) (gw : isGo (X.o w.2.1 0)) (inj : ∀ y ∈ K, isGo (X.o y.2.1 0) → ceG y = ceG w → y = w) : ∃ col' : Nat → Option (Nat × Bool), COL R u K col' b20 := by
  obtain ⟨h1, h2, h3, h4, h5, h6, h7⟩ := h
  have ek : (Int32.ofNat kk).toInt = (kk : Int) := Int32.toInt_ofNat_of_lt (by omega)
  have i20 := ej.1 20 (by decide)
  have a22 := ej.A 22 (by decide)
  have a66 := ej.A 66 (by decide)
  have a67 := ej.A 67 (by decide)
  have a68 := ej.A 68 (by decide)
  have ne : ∀ (j : Nat) (x : Nat × Bool), col j = some x → ¬ j = kk := fun j x q z => by
    rw [z, ck] at q
    cases q
  obtain ⟨e, he⟩ : ∃ e : Bool, (bb = 0 → e = true) ∧ (bb = 1 → e = false) := by
    rcases hb with z | z
    · exact ⟨true, fun _ => rfl, fun y => by omega⟩
    · exact ⟨false, fun y => by omega, fun _ => rfl⟩
  have keep : ∀ (j : Nat) (x : Nat × Bool), col j = some x → (if j = kk then some (ceG w, e) else col j) = some x := fun j x q => by
    rw [if_neg (ne j x q)]
    exact q
  refine ⟨fun j => if j = kk then some (ceG w, e) else col j, fun k x q => ?_, fun k x q => ?_, fun c hc q => ?_, fun k g e' q => ?_, fun c hc q => ?_, fun c hc q hq t1 t2 l => ?_, fun c hc k p => ?_⟩
  · by_cases z : k = kk
    · rw [i20, z]
      exact kr
    · rw [i20]
      exact h1 k x (by rw [← q]; exact (if_neg z).symm)
  · rw [a22]
    by_cases z : k = kk
    · have ex : (ceG w, e) = x := by
        have y : some (ceG w, e) = some x := (if_pos z).symm.trans q
        cases y
        rfl
      obtain ⟨y1, y2⟩ := h3 w hw gw
      rcases hb with zb | zb
      · rw [z, (hd.1 zb).2.2]
        rcases y1 with y | ⟨j, j1, j2⟩
        · exact Or.inl y
        · refine Or.inr ⟨j, j1, cl j _ j2, ?_⟩
          have hx : x = (ceG w, true) := by rw [← ex, he.1 zb]
          rw [hx]
          exact keep j _ j2
      · rw [z, (hd.2 zb).2.2]
        rcases y2 with y | ⟨j, j1, j2⟩
        · exact Or.inl y
        · refine Or.inr ⟨j, j1, cl j _ j2, ?_⟩
          have hx : x = (ceG w, false) := by rw [← ex, he.2 zb]
          rw [hx]
          exact keep j _ j2
    · rcases h2 k x (by rw [← q]; exact (if_neg z).symm) with y | ⟨j, j1, jl, j2⟩
      · exact Or.inl y
      · exact Or.inr ⟨j, j1, jl, keep j x j2⟩
  · rw [eo] at q
    obtain ⟨y1, y2⟩ := h3 c hc q
    have kp : ∀ (g : Int32) (x : Nat × Bool), (g.toInt < 0 ∨ ∃ j : Nat, g.toInt = (j : Int) ∧ col j = some x) → g.toInt < 0 ∨ ∃ j : Nat, g.toInt = (j : Int) ∧ (if j = kk then some (ceG w, e) else col j) = some x := fun g x h => by
      rcases h with y | ⟨j, j1, j2⟩
      · exact Or.inl y
      · exact Or.inr ⟨j, j1, keep j x j2⟩
    have nw : ∀ x : Nat × Bool, x = (ceG w, e) → (if kk = kk then some (ceG w, e) else col kk) = some x := fun x hx => by
      rw [if_pos rfl, hx]
    rcases hb with zb | zb
    · obtain ⟨d1, d2, -⟩ := hd.1 zb
      rw [d1, d2]
      refine ⟨?_, kp _ _ y2⟩
      by_cases z : c = w
      · rw [z, updA rfl, ek]
        exact Or.inr ⟨kk, rfl, nw _ (by rw [he.1 zb])⟩
      · rw [updN (fun g => z (inj c hc q g))]
        exact kp _ _ y1
    · obtain ⟨d1, d2, -⟩ := hd.2 zb
      rw [d1, d2]
      refine ⟨kp _ _ y1, ?_⟩
      by_cases z : c = w
      · rw [z, updA rfl, ek]
        exact Or.inr ⟨kk, rfl, nw _ (by rw [he.2 zb])⟩
      · rw [updN (fun g => z (inj c hc q g))]
        exact kp _ _ y2
  · by_cases z : k = kk
    · have ex : (ceG w, e) = (g, e') := by
        have y : some (ceG w, e) = some (g, e') := (if_pos z).symm.trans q
        cases y
        rfl
      exact ⟨w, hw, by rw [eo]; exact gw, (congrArg Prod.fst ex)⟩
    · obtain ⟨c, hc, g1, g2⟩ := h4 k g e' (by rw [← q]; exact (if_neg z).symm)
      exact ⟨c, hc, by rw [eo]; exact g1, g2⟩
  · rw [eo] at q
    rw [a66, i20]
    obtain ⟨z1, z2, z3⟩ := h5 c hc q
    refine ⟨z1, z2, ?_⟩
    have nk := cf c hc q
    exact (if_neg (show ¬ (v.a 66 (ceT c)).toInt.toNat = kk by omega)).trans z3
  · rw [eo] at t1 t2
    rw [a66]
    exact h6 c hc q hq t1 t2 l
  · have p' : PLF X v c k := by
      unfold PLF at *
      rw [eo, a66, a67, a68] at p
      exact p
    obtain ⟨z1, z2, z3, z4⟩ := h7 c hc k p'
    refine ⟨z1, by rw [i20]; exact z2, ?_, fun q hq t => by rw [eo] at t; rw [a66]; exact z4 q hq t⟩
    exact (if_neg (fun z => cp c hc (by
      have : (kk : Int) = k := by omega
      rw [this]
      exact p'))).trans z3
