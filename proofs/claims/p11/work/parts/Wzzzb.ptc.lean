/-! both readers: chains are aimed, a row goes -/
/-- instructions that no row below looks at -/
def FRE (S : CS) (s : RS) (L : List CEL) (col : Nat → Option (Nat × Bool)) (b20 : Int) (k : Nat) : Prop := b20 ≤ (k : Int) ∧ col k = none ∧ ∀ q ∈ L, S.o q.2.1 0 = 218 → ¬ (k : Int) = (s.a 66 (ceT q)).toInt
/-- only the second word of such instructions is other -/
def E22 (F : Nat → Prop) (s u : RS) : Prop := u.i = s.i ∧ u.l = s.l ∧ u.b = s.b ∧ (∀ k : Nat, k ≠ 22 → u.a k = s.a k) ∧ ∀ j : Nat, ¬ F j → u.a 22 j = s.a 22 j
theorem E22.rf (F : Nat → Prop) (s : RS) : E22 F s s := ⟨rfl, rfl, rfl, fun _ _ => rfl, fun _ _ => rfl⟩
theorem E22.tr {F : Nat → Prop} {s u w : RS} (h : E22 F s u) (g : E22 F u w) : E22 F s w := ⟨g.1.trans h.1, g.2.1.trans h.2.1, g.2.2.1.trans h.2.2.1, fun k hk => (g.2.2.2.1 k hk).trans (h.2.2.2.1 k hk), fun j hj => (g.2.2.2.2 j hj).trans (h.2.2.2.2 j hj)⟩
theorem E22.set {F : Nat → Prop} {s : RS} {j : Nat} {v : Int32} (h : F j) : E22 F s (RS.setA s 22 j v) := ⟨rfl, rfl, rfl, fun k hk => setA_nk hk, fun i hi => setA_ne (fun z => hi (by rw [z]; exact h))⟩
theorem chn.e22 {F : Nat → Prop} {s u : RS} (h : E22 F s u) : ∀ (L : List Nat) (k : Int32), chn s k L → chn u k L
  | [], _, g => g
  | j :: L, k, g => ⟨g.1, by rw [h.1]; exact g.2.1, g.2.2.1, by rw [h.2.2.2.1 27 (by decide)]; exact chn.e22 h L _ g.2.2.2⟩
theorem kch.e22 {F : Nat → Prop} {s u : RS} (h : E22 F s u) : ∀ (L : List Nat) (k : Int32), kch s k L → kch u k L
  | [], _, g => g
  | j :: L, k, g => ⟨g.1, by rw [h.1]; exact g.2.1, g.2.2.1, by rw [h.2.2.2.1 37 (by decide)]; exact kch.e22 h L _ g.2.2.2⟩
theorem RFR.e22 {F : Nat → Prop} {S : CS} {s u : RS} {a t g w : Nat} (h : E22 F s u) (r : RFR S s a t g w) : RFR S u a t g w := by
  have e := fun k hk => h.2.2.2.1 k hk
  unfold RFR F301 F302 F303 F203 F204 F205 F206 F207 F304 F212 F301 F218 FTR FTS F301 FBL at *
  rw [e 64 (by decide), e 65 (by decide), e 66 (by decide), e 67 (by decide), e 68 (by decide), e 71 (by decide), e 72 (by decide), e 73 (by decide), e 44 (by decide), e 57 (by decide), e 58 (by decide), h.1, h.2.2.1]
  exact r
theorem CST.e22 {F : Nat → Prop} {S : CS} {s u : RS} {c : CEL} {m e k m' e' k' : Int} (h : E22 F s u) (g : CST S s c m e k m' e' k') (nf : S.o c.2.1 0 = 218 → ¬ F (s.a 66 (ceT c)).toNatClampNeg) : CST S u c m e k m' e' k' := by
  obtain ⟨g1, g2, g3, g4, g5, g6, g7⟩ := g
  have ea := fun k hk => h.2.2.2.1 k hk
  have a66 := ea 66 (by decide)
  refine ⟨g1, g2, g3.e22 h, g4, fun q => ?_, g6, fun q => ?_⟩
  · obtain ⟨x1, x2, x3, L, y1, y2, y3, y4⟩ := g5 q
    rw [a66, h.2.2.2.2 _ (nf q), h.1]
    refine ⟨x1, x2, x3, L, ?_, chn.e22 h _ _ y2, ?_, y4⟩
    · unfold CSM at *
      rw [ea 28 (by decide), ea 25 (by decide)]
      exact y1
    · unfold FQL at *
      rw [ea 67 (by decide)]
      exact y3
  · obtain ⟨x1, L, y1, y2, y3, y4⟩ := g7 q
    rw [a66, ea 30 (by decide), ea 72 (by decide)]
    refine ⟨x1, L, kch.e22 h _ _ y1, ?_, y3, y4⟩
    unfold KMK at *
    rw [ea 34 (by decide)]
    exact y2
theorem LOW.e22 {F : Nat → Prop} {S : CS} {s u : RS} {c : CEL} (h : E22 F s u) (g : LOW S s c) : LOW S u c := by
  unfold LOW at *
  rw [h.2.2.2.1 65 (by decide), h.2.2.2.1 64 (by decide)]
  exact g
theorem STK.e22 {F : Nat → Prop} {S : CS} {s u : RS} (h : E22 F s u) : ∀ (L : List CEL) (m e k : Int), (∀ q ∈ L, S.o q.2.1 0 = 218 → ¬ F (s.a 66 (ceT q)).toNatClampNeg) → STK S s L m e k → STK S u L m e k
  | [], _, _, _, _, _ => trivial
  | c :: L, m, e, k, nf, g => by
    obtain ⟨m', e', k', g1, g2, g3⟩ := g
    exact ⟨m', e', k', g1.e22 h (nf c List.mem_cons_self), fun c0 hc => ⟨(g2 c0 hc).1, (g2 c0 hc).2.e22 h⟩, STK.e22 h L m' e' k' (fun q hq => nf q (List.mem_cons_of_mem _ hq)) g3⟩
theorem JMQ.e22 {F : Nat → Prop} {S : CS} {s u : RS} {L : List CEL} {B59 B29 : Int} (h : E22 F s u) (g : JMQ S s L B59 B29) : JMQ S u L B59 B29 := by
  have e := fun k hk => h.2.2.2.1 k hk
  unfold JMQ PND flg at *
  rw [e 50 (by decide), e 51 (by decide), e 60 (by decide), e 61 (by decide), e 62 (by decide), e 66 (by decide), h.1]
  exact g
theorem COL.e22 {S : CS} {s u : RS} {L : List CEL} {col : Nat → Option (Nat × Bool)} {b20 : Int} (g : COL S s L col b20) (h : E22 (FRE S s L col b20) s u) : COL S u L col b20 := by
  obtain ⟨h1, h2, h3, h4, h5, h6, h7⟩ := g
  have e := fun k hk => h.2.2.2.1 k hk
  have z2 : ∀ (k : Nat) (x : Nat × Bool), col k = some x → (u.a 22 k).toInt < 0 ∨ ∃ j : Nat, (u.a 22 k).toInt = (j : Int) ∧ j < k ∧ col j = some x := fun k x q => by
    rw [h.2.2.2.2 k (fun z => by rw [z.2.1] at q; cases q)]
    exact h2 k x q
  unfold COL PLF at *
  rw [e 48 (by decide), e 49 (by decide), e 66 (by decide), e 67 (by decide), e 68 (by decide), h.1]
  exact ⟨h1, z2, h3, h4, h5, h6, h7⟩
theorem ENV.e22 {F : Nat → Prop} {d : Int32} {S : CS} {s u : RS} (h : E22 F s u) (g : ENV d S s) : ENV d S u := by
  obtain ⟨ei, el, eb, ea, -⟩ := h
  refine g.kq (by rw [ei]) (by rw [ei]) (by rw [ei]) (by rw [ei]) (by rw [ei]) (by rw [ei]) (by rw [ei]) (ea 1 (by decide)) (ea 4 (by decide)) (ea 41 (by decide)) (by rw [eb]) (by rw [eb]) (by rw [ei]) (by rw [ei]) (by rw [ei]) (by rw [ei]) (by rw [ei]) (by rw [ei]) (by rw [ei]) el ?_ ?_
  · unfold phI
    rw [ei]
    exact ⟨g.2.2.2.2.2.2.1, g.2.2.2.2.2.2.2.1⟩
  · have w := g.wp
    unfold WPI at *
    rw [ei, ea 58 (by decide), ea 62 (by decide)]
    exact w
theorem COR.e22 {d : Int32} {B : CS} {b : RS} {t0 : Nat} {L : List CEL} {x : Int} {S : CS} {s u : RS} {col : Nat → Option (Nat × Bool)} (h : COR d B b t0 L x S s) (hc : COL S s L col (b.i 20).toInt) (g : E22 (FRE S s L col (b.i 20).toInt) s u) : COR d B b t0 L x S u ∧ COL S u L col (b.i 20).toInt := by
  have cu := hc.e22 g
  obtain ⟨h1, h2, h3, h4, h5, ⟨h6, h7, h8, h9⟩, h10, h13, h14, h17, ⟨h18, h19, h20, -⟩⟩ := h
  obtain ⟨ei, el, eb, ea, e22⟩ := id g
  refine ⟨⟨h1.e22 g, ?_, h3.e22 g, LBC.mv L x h4 (fun _ _ => rfl) (fun _ _ _ => by rw [ea 46 (by decide)]), h5, ⟨?_, ?_, ?_, ?_⟩, ?_, ⟨h13.1, h13.2.1, h13.2.2.1, h13.2.2.2.1, fun y hy => ⟨fun t z => by rw [ea 72 (by decide)] at z ⊢; exact (h13.2.2.2.2 y hy).1 t z, fun t z => by rw [ea 67 (by decide)] at z ⊢; exact (h13.2.2.2.2 y hy).2 t z⟩⟩, ?_, ?_, h18, h19, h20, col, cu⟩, cu⟩
  · rw [ei]
    refine STK.e22 g _ _ _ _ (fun q hq t z => ?_) h2
    have z1 := z.2.2 q hq t
    have z3 := (hc.2.2.2.2.1 q hq t).1
    have z2 : (((s.a 66 (ceT q)).toNatClampNeg : Nat) : Int) = (s.a 66 (ceT q)).toInt := by
      show (((s.a 66 (ceT q)).toInt.toNat : Nat) : Int) = _
      omega
    exact z1 z2
  · intro j hj
    have z := h6 j hj
    rw [ea 64 (by decide), ea 65 (by decide), ea 66 (by decide), ea 67 (by decide), ea 68 (by decide), ea 69 (by decide), ea 70 (by decide), ea 71 (by decide), ea 72 (by decide), ea 73 (by decide), eb]
    exact z
  · unfold TBB at *
    rw [ei, eb, ea 40 (by decide), ea 41 (by decide), ea 44 (by decide), ea 46 (by decide), ea 47 (by decide), ea 48 (by decide), ea 49 (by decide), ea 50 (by decide), ea 51 (by decide), ea 57 (by decide), ea 58 (by decide), ea 60 (by decide), ea 61 (by decide), ea 62 (by decide), ea 30 (by decide), ea 34 (by decide), ea 37 (by decide), ea 25 (by decide), ea 27 (by decide), ea 28 (by decide)]
    exact h7
  · refine ⟨by rw [ei]; exact h8.1, fun j hj => ?_⟩
    rw [e22 j (fun z => by have := z.1; omega)]
    exact h8.2 j hj
  · rw [ei, eb, ea 1 (by decide), ea 4 (by decide)]
    exact h9
  · unfold phI at *
    rw [ei]
    exact h10
  · rw [ei]
    exact h14
  · unfold IAR at *
    rw [ei, ea 44 (by decide)]
    exact h17
/-- the chain of one colour is aimed -/
theorem pt_e22 {N : Nat} {F : Nat → Prop} {col : Nat → Option (Nat × Bool)} {κ : Nat × Bool} (hF : ∀ k : Nat, col k = some κ → F k) : ∀ (n M : Nat) (s V : RS) (x2 x3 : Int32), (∀ k : Nat, col k = some κ → k < M → (s.a 22 k).toInt < 0 ∨ ∃ j : Nat, (s.a 22 k).toInt = (j : Int) ∧ j < k ∧ col j = some κ) → (x3.toInt < 0 ∨ ∃ j : Nat, x3.toInt = (j : Int) ∧ j < M ∧ col j = some κ) → f_X12_patch_2 N n s x2 x3 = some V → E22 F s V
  | 0, _, _, _, _, _, _, _, e => by cases e
  | n + 1, M, s, V, x2, x3, hs, hx, e => by
    have e' : b_X12_patch_2 N (f_X12_patch_2 N n) s x2 x3 = some V := e
    unfold b_X12_patch_2 at e'
    by_cases c : x3 < 0
    · rw [if_pos c] at e'
      rw [← Option.some.inj e']
      exact E22.rf F s
    · rw [if_neg c] at e'
      obtain ⟨hib, e'⟩ := hf_ite e'
      rcases hx with hx | ⟨j, j1, j2, j3⟩
      · exact absurd (Int32.lt_iff_toInt_lt.mpr (by rw [z_t0]; exact hx)) c
      · have jn : x3.toNatClampNeg = j := by
          show x3.toInt.toNat = j
          omega
        rw [jn] at e'
        have z := pt_e22 hF n j (RS.setA s 22 j x2) V x2 (s.a 22 j) (fun k k1 k2 => by
          rw [setA_ne (show k ≠ j by omega)]
          exact hs k k1 (by omega)) (hs j j3 j2) e'
        exact (E22.set (hF j j3)).tr z
theorem pt_in {N : Nat} {F : Nat → Prop} {S : CS} {L : List CEL} {col : Nat → Option (Nat × Bool)} {b20 : Int} {κ : Nat × Bool} {s V : RS} {x1 x2 : Int32} (hc : COL S s L col b20) (hF : ∀ k : Nat, col k = some κ → F k) (hx : x1.toInt < 0 ∨ ∃ j : Nat, x1.toInt = (j : Int) ∧ col j = some κ) (e : f_X12_patch N s x1 x2 = some V) : E22 F s V := by
  refine pt_e22 hF N (x1.toInt.toNat + 1) s V x2 x1 (fun k hk _ => hc.2.1 k κ hk) ?_ e
  rcases hx with hx | ⟨j, j1, j2⟩
  · exact Or.inl hx
  · exact Or.inr ⟨j, j1, by omega, j2⟩
/-- a row's colours go -/
def cdr (g : Nat) (col : Nat → Option (Nat × Bool)) (k : Nat) : Option (Nat × Bool) := match col k with
  | some x => if x.1 = g then none else some x
  | none => none
theorem cdrS {g k : Nat} {col : Nat → Option (Nat × Bool)} {x : Nat × Bool} (h : cdr g col k = some x) : col k = some x ∧ ¬ x.1 = g := by
  unfold cdr at h
  cases h1 : col k with
  | none =>
    rw [h1] at h
    cases h
  | some y =>
    rw [h1] at h
    have h2 : (if y.1 = g then none else Option.some y) = Option.some x := h
    by_cases c : y.1 = g
    · rw [if_pos c] at h2
      cases h2
    · rw [if_neg c] at h2
      have e := Option.some.inj h2
      rw [← e]
      exact ⟨rfl, c⟩
theorem cdrK {g k : Nat} {col : Nat → Option (Nat × Bool)} {x : Nat × Bool} (h : col k = some x) (n : ¬ x.1 = g) : cdr g col k = some x := by
  unfold cdr
  rw [h]
  exact if_neg n
theorem cdrN {g k : Nat} {col : Nat → Option (Nat × Bool)} (h : col k = none) : cdr g col k = none := by
  unfold cdr
  rw [h]
theorem cdrG {g k : Nat} {col : Nat → Option (Nat × Bool)} {x : Nat × Bool} (h : col k = some x) (n : x.1 = g) : cdr g col k = none := by
  unfold cdr
  rw [h]
  exact if_pos n
theorem COL.drop {S : CS} {s : RS} {L : List CEL} {c1 : CEL} {col : Nat → Option (Nat × Bool)} {b20 : Int} (h : COL S s (c1 :: L) col b20) (inj : ∀ y ∈ L, isGo (S.o y.2.1 0) → ¬ ceG y = ceG c1) : COL S s L (cdr (ceG c1) col) b20 := by
  obtain ⟨h1, h2, h3, h4, h5, h6, h7⟩ := h
  refine ⟨fun k x e => h1 k x (cdrS e).1, fun k x e => ?_, fun c hc q => ?_, fun k g e q => ?_, fun c hc q => ?_, fun c hc q hq => h6 c (List.mem_cons_of_mem _ hc) q (List.mem_cons_of_mem _ hq), fun c hc k p => ?_⟩
  · obtain ⟨e1, e2⟩ := cdrS e
    rcases h2 k x e1 with z | ⟨j, j1, j2, j3⟩
    · exact Or.inl z
    · exact Or.inr ⟨j, j1, j2, cdrK j3 e2⟩
  · obtain ⟨z1, z2⟩ := h3 c (List.mem_cons_of_mem _ hc) q
    have n := inj c hc q
    refine ⟨?_, ?_⟩
    · rcases z1 with z | ⟨j, j1, j2⟩
      · exact Or.inl z
      · exact Or.inr ⟨j, j1, cdrK j2 n⟩
    · rcases z2 with z | ⟨j, j1, j2⟩
      · exact Or.inl z
      · exact Or.inr ⟨j, j1, cdrK j2 n⟩
  · obtain ⟨e1, e2⟩ := cdrS q
    obtain ⟨c, hc, g1, g2⟩ := h4 k g e e1
    rcases List.mem_cons.mp hc with e0 | hc
    · rw [e0] at g2
      exact absurd g2.symm e2
    · exact ⟨c, hc, g1, g2⟩
  · obtain ⟨z1, z2, z3⟩ := h5 c (List.mem_cons_of_mem _ hc) q
    exact ⟨z1, z2, cdrN z3⟩
  · obtain ⟨z1, z2, z3, z4⟩ := h7 c (List.mem_cons_of_mem _ hc) k p
    exact ⟨z1, z2, cdrN z3, fun q hq => z4 q (List.mem_cons_of_mem _ hq)⟩
/-- what the row's chains and its waiting instruction are to the rows below -/
theorem COL.fre {S : CS} {s : RS} {L : List CEL} {c1 : CEL} {col : Nat → Option (Nat × Bool)} {b20 : Int} (h : COL S s (c1 :: L) col b20) (b0 : 0 ≤ b20) : (∀ (k : Nat) (e : Bool), col k = some (ceG c1, e) → FRE S s L (cdr (ceG c1) col) b20 k) ∧ (∀ k : Int, PLF S s c1 k → FRE S s L (cdr (ceG c1) col) b20 k.toNat) := by
  obtain ⟨h1, h2, h3, h4, h5, h6, h7⟩ := h
  refine ⟨fun k e q => ⟨(h1 k _ q).1, cdrG q rfl, fun y hy t z => ?_⟩, fun k p => ?_⟩
  · have z1 := (h5 y (List.mem_cons_of_mem _ hy) t).2.2
    rw [← z, Int.toNat_natCast, q] at z1
    cases z1
  · obtain ⟨z1, z2, z3, z4⟩ := h7 c1 List.mem_cons_self k p
    refine ⟨by omega, cdrN z3, fun y hy t z => z4 y (List.mem_cons_of_mem _ hy) t (by omega)⟩
/-- a row goes, the state stays -/
theorem COR.dropW {d : Int32} {B : CS} {b : RS} {t0 : Nat} {L : List CEL} {x : Int} {S : CS} {s : RS} {c1 c : CEL} (h : COR d B b t0 (c1 :: c :: L) x S s) (nt : ¬ isTy (S.o c1.2.1 0)) (ns : ¬ S.o c1.2.1 0 = 218) (nd : nDp (S.o c1.2.1 0) = 0) {w : Int32} (hw : w.toInt = (b.i 19).toInt + (nSg (S.o c1.2.1 0) : Int)) : COR d B (RS.setI b 19 w) t0 (c :: L) (-9) S s ∧ (∀ y ∈ c :: L, isGo (S.o y.2.1 0) → ¬ ceG y = ceG c1) ∧ (∀ y ∈ c :: L, y.1 < c1.1) ∧ LNK S c1 c ∧ LOW S s c := by
  obtain ⟨h1, h2, h3, h4, h5, h6, ⟨h10, h11, h12, hsg⟩, h13, h14, h17, ⟨h18, h19, h20, col, h21⟩⟩ := h
  have ord := STK.ord (c :: L) c1 _ _ _ h2
  obtain ⟨inj1, inj2⟩ := STK.inj (c1 :: c :: L) _ _ _ h2
  have inj : ∀ y ∈ c :: L, isGo (S.o y.2.1 0) → ¬ ceG y = ceG c1 := fun y hy g z => by
    have := (inj2 y (List.mem_cons_of_mem _ hy) c1 List.mem_cons_self (ord y hy)).2.1
    have := nGo1 g
    omega
  have st := STK.drop h2
  rw [if_neg ns] at st
  have d0 : 0 ≤ dbt (S.o c1.2.1 0) := by
    unfold dbt
    by_cases c1' : S.o c1.2.1 0 = 205 ∨ S.o c1.2.1 0 = 207
    · rw [if_pos c1']; omega
    · rw [if_neg c1']
      by_cases c2 : S.o c1.2.1 0 = 304
      · rw [if_pos c2]; omega
      · rw [if_neg c2]; omega
  have e1 : PDM S (c1 :: c :: L) = dbt (S.o c1.2.1 0) + PDM S (c :: L) := rfl
  have e2 : DSM S (c1 :: c :: L) = (nDp (S.o c1.2.1 0) : Int) + DSM S (c :: L) := rfl
  rw [e1] at h11
  rw [e2, nd] at h13
  obtain ⟨h13, h13b⟩ := h13
  have cf : cfl S (c :: L) (S.i 22).toInt = (B.i 22).toInt := by
    have z := h13b.2.2.1
    have e3 : cfl S (c1 :: c :: L) (S.i 22).toInt = cfl S (c :: L) (if S.o c1.2.1 0 = 218 then (S.o c1.2.1 13).toInt else (S.i 22).toInt) := rfl
    rw [e3, if_neg ns] at z
    exact z
  obtain ⟨m', e', k', g1, g2, g3⟩ := h2
  obtain ⟨l1, l2⟩ := g2 c rfl
  have e5 : SSM S (c1 :: c :: L) = (nSg (S.o c1.2.1 0) : Int) + SSM S (c :: L) := rfl
  rw [e5] at hsg
  have hsw : (s.i 19).toInt = w.toInt + SSM S (c :: L) := by omega
  have hph : phI b + PDM S (c :: L) ≤ phI s := by omega
  have hds : (S.i 38).toInt = (B.i 38).toInt + DSM S (c :: L) := by omega
  exact ⟨⟨h1, st, h3.drop nt ord, h4.drop, h5, h6, ⟨h10, hph, h12, hsw⟩, ⟨hds, fun y hy => h13b.1 y (List.mem_cons_of_mem _ hy), fun y hy z hz => h13b.2.1 y (List.mem_cons_of_mem _ hy) z (List.mem_cons_of_mem _ hz), cf, fun y hy => h13b.2.2.2 y (List.mem_cons_of_mem _ hy)⟩, h14, h17, ⟨h18, h19, h20, _, h21.drop inj⟩⟩, inj, ord, l1, l2⟩
theorem COR.drop {d : Int32} {B : CS} {b : RS} {t0 : Nat} {L : List CEL} {x : Int} {S : CS} {s : RS} {c1 c : CEL} (h : COR d B b t0 (c1 :: c :: L) x S s) (nt : ¬ isTy (S.o c1.2.1 0)) (ns : ¬ S.o c1.2.1 0 = 218) (nd : nDp (S.o c1.2.1 0) = 0) (ng : nSg (S.o c1.2.1 0) = 0) : COR d B b t0 (c :: L) (-9) S s ∧ (∀ y ∈ c :: L, isGo (S.o y.2.1 0) → ¬ ceG y = ceG c1) ∧ (∀ y ∈ c :: L, y.1 < c1.1) ∧ LNK S c1 c ∧ LOW S s c := by
  have z := h.dropW nt ns nd (w := b.i 19) (by rw [ng]; omega)
  rw [rsI_id rfl] at z
  exact z
/-- as COR.mv, but rows, goals, walls and names may be fewer -/
theorem COR.mv2 {d : Int32} {B : CS} {b : RS} {t0 T : Nat} {L : List CEL} {x : Int} {S R : CS} {s u : RS} (h : COR d B b t0 L x S s) (hin : INL S s T L) (hT : t0 ≤ T) (ev : ENV d R u) (f : FRB T s u) (tb : TBR s u) (cd : CDK (s.i 20).toInt s u) (nm : u.i 2 = s.i 2 ∧ u.i 3 = s.i 3 ∧ u.i 8 = s.i 8 ∧ u.a 1 = s.a 1 ∧ u.a 4 = s.a 4 ∧ u.b 9 = s.b 9) (ck : CKZ S R) (i38 : R.i 38 = S.i 38) (i56 : R.i 56 = S.i 56) (o50 : ∀ y ∈ L, (S.o y.2.1 3).toInt ≤ (R.i 50).toInt) (h53 : (B.i 53).toInt ≤ (R.i 53).toInt) (h38 : (b.i 38).toInt ≤ (u.i 38).toInt) (h43 : (b.i 43).toInt ≤ (u.i 43).toInt) (h56 : (b.i 56).toInt ≤ (u.i 56).toInt) (iar : IAR R u) (rt : RTE S R) (q : (s.i 11).toInt ≤ (u.i 11).toInt ∧ phI b + PDM S L ≤ phI u ∧ (s.i 17).toInt ≤ (u.i 17).toInt ∧ (u.i 19).toInt = (s.i 19).toInt) (n8 : 8 * ((u.i 38).toInt - 2) ≤ (u.i 11).toInt) : COR d B b t0 L x R u := by
  obtain ⟨h1, h2, h3, h4, h5, ⟨h6, h7, h8, h9⟩, ⟨h10, h11, h12, hsg⟩, h13, ⟨h14, h15, h16⟩, h17, ⟨h18, h19, h20, col, h21⟩⟩ := h
  have eo := fun c hc => (hin.o ck c hc).1
  obtain ⟨d1, d2⟩ := DSM.eq L eo
  obtain ⟨m1, m2, m3, m7, m8, m9⟩ := nm
  have k11 := h1.1.2.2.2.1.1
  have k11' := ev.1.2.2.2.1.1
  have rt' := rt
  unfold RTE at rt'
  rw [k11, k11'] at rt'
  have sj := h1.sj
  refine ⟨ev, ?_, h3.mv h18 sj.1 hin ck f tb, LBC.mv L x h4 eo (fun c hc z => ?_), h5.mv ck rt h53 i56, ⟨h6.tr (f.mo hT), h7.mv tb h38 h43 h56, h8.tr (cd.wk h8.1), ⟨m1.trans h9.1, m2.trans h9.2.1, m3.trans h9.2.2.1, m7.trans h9.2.2.2.1, m8.trans h9.2.2.2.2.1, m9.trans h9.2.2.2.2.2⟩⟩, ⟨by omega, by rw [d2]; omega, by omega, by rw [SSM.eo L eo]; omega⟩, ⟨by rw [i38, d1]; exact h13.1, fun y hy => by rw [eo y hy]; exact ⟨(h13.2.1 y hy).1, o50 y hy⟩, fun y hy z hz l => by rw [eo y hy, eo z hz]; exact h13.2.2.1 y hy z hz l, by rw [cfl.eq L _ eo, ck.1]; exact h13.2.2.2.1, fun y hy => ⟨fun t z => by rw [eo y hy] at t; rw [(FRB72 hin f y hy).1] at z ⊢; exact (h13.2.2.2.2 y hy).1 t z, fun t z => by rw [eo y hy] at t; rw [(FRB72 hin f y hy).2] at z ⊢; exact (h13.2.2.2.2 y hy).2 t z⟩⟩, ⟨by omega, n8, by omega⟩, iar, h18, h19, h20, col, h21.mv h20 hin ck f tb cd⟩
  · have st := STK.mv ck f tb cd L _ _ _ h2 hin (Int.le_refl _) (Int.le_refl _) (Int.le_refl _)
    rw [ck.1]
    exact st.hi (tb.2.2.2.2.2.2.2.2.2.1) (tb.2.2.2.2.2.2.2.1)
  · exact (tb.2.1 (ceG c) ((hin c hc).2.2.2.1 (Or.inl z))).2.2.1
