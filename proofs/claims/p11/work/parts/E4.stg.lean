/-! reading: what lies inside a statement finds what lies around it -/
def STG (v W : RS) : Prop := cdI v ≤ cdI W ∧ goI W ≤ goI v ∧ (∀ γ : Nat, (γ : Int) < goI W → W.a 44 γ = v.a 44 γ ∧ W.a 47 γ = v.a 47 γ ∧ (v.a 50 γ = 1 → W.a 50 γ = 1) ∧ (v.a 51 γ = 1 → W.a 51 γ = 1)) ∧ (∀ (γ : Nat) (b : Bool) (L : List Nat), (γ : Int) < goI W → ISCH v (hd v b γ) L → (∀ x ∈ L, (x : Int) < cdI v) → ∃ L1, ISCH W (hd W b γ) (L1 ++ L) ∧ ∀ x ∈ L1, (x : Int) < cdI W) ∧ (peI v ≤ peI W ∧ bel 60 (peI v) v W ∧ bel 61 (peI v) v W ∧ bel 62 (peI v) v W) ∧ waI W = waI v ∧ bel 57 (waI v) v W
theorem STG.rf (v : RS) : STG v v := ⟨Int.le_refl _, Int.le_refl _, fun _ _ => ⟨rfl, rfl, id, id⟩, fun γ b L _ h hL => ⟨[], h, fun x hx => absurd hx List.not_mem_nil⟩, ⟨Int.le_refl _, bel.rf _ _ _, bel.rf _ _ _, bel.rf _ _ _⟩, rfl, bel.rf _ _ _⟩
theorem STG.tr {u v W : RS} (h1 : STG u v) (h2 : STG v W) : STG u W := by
  obtain ⟨a1, a2, a3, a4, a5, a6, a7⟩ := h1
  obtain ⟨b1, b2, b3, b4, b5, b6, b7⟩ := h2
  refine ⟨by omega, by omega, fun γ hγ => ?_, fun γ b L hγ hI hL => ?_, ⟨by have := a5.1; have := b5.1; omega, a5.2.1.tr b5.2.1 a5.1, a5.2.2.1.tr b5.2.2.1 a5.1, a5.2.2.2.tr b5.2.2.2 a5.1⟩, b6.trans a6, a7.tr b7 (by omega)⟩
  · obtain ⟨c1, c2, c3, c4⟩ := a3 γ (by omega)
    obtain ⟨d1, d2, d3, d4⟩ := b3 γ hγ
    exact ⟨d1.trans c1, d2.trans c2, fun q => d3 (c3 q), fun q => d4 (c4 q)⟩
  · obtain ⟨L1, c1, c2⟩ := a4 γ b L (by omega) hI hL
    obtain ⟨L2, d1, d2⟩ := b4 γ b (L1 ++ L) hγ c1 (fun x hx => by
      rcases List.mem_append.mp hx with hx | hx
      · exact c2 x hx
      · have := hL x hx; omega)
    refine ⟨L2 ++ L1, by rw [List.append_assoc]; exact d1, fun x hx => ?_⟩
    rcases List.mem_append.mp hx with hx | hx
    · exact d2 x hx
    · have := c2 x hx; omega
theorem STG.kp {t : Nat} {v W : RS} (h : KP t v W) (hg : goI W = goI v) (hw : waI W = waI v) : STG v W := by
  have kg := h.2.2.2.2.2.2.1
  have kn := h.2.2.2.2.2.2.2.1
  have kw := h.2.2.2.2.2.2.2.2.1
  have kq := h.2.2.2.2.2.2.2.2.2.1
  refine ⟨h.2.1.1, by omega, fun γ hγ => ⟨kg.2.1 γ (by omega), kg.2.2.1 γ (by omega), kg.2.2.2.1 γ (by omega), kg.2.2.2.2.1 γ (by omega)⟩, fun γ b L hγ hI hL => ?_, kq, hw, kw.2.1⟩
  obtain ⟨L1, c1, c2⟩ := kn γ b L (by omega) hI hL
  exact ⟨L1, c1, fun x hx => (c2 x hx).2⟩
theorem STG.fin {v W : RS} (he : EQT v W) (hc : CHN v W) (hcd : cdI v ≤ cdI W) (hg : goI W ≤ goI v) : STG v W := by
  refine ⟨hcd, hg, fun γ _ => ⟨by rw [he.1 44 (by decide) (by decide)], by rw [he.1 47 (by decide) (by decide)], fun q => by rw [he.1 50 (by decide) (by decide)]; exact q, fun q => by rw [he.1 51 (by decide) (by decide)]; exact q⟩, fun γ b L hγ hI hL => ⟨[], hc.eIS he hγ hI, fun x hx => absurd hx List.not_mem_nil⟩, ⟨by rw [he.pe]; exact Int.le_refl _, fun j _ => by rw [he.1 60 (by decide) (by decide)], fun j _ => by rw [he.1 61 (by decide) (by decide)], fun j _ => by rw [he.1 62 (by decide) (by decide)]⟩, he.wa, fun j _ => by rw [he.1 57 (by decide) (by decide)]⟩
theorem STG.tbs {v W : RS} (h : TBS v W) : STG v W := STG.fin h.1 h.chn (by rw [h.cd]; exact Int.le_refl _) (by rw [h.go]; exact Int.le_refl _)
theorem EQT.hole (v : RS) (k : Nat) (x : Int32) : EQT v (v.setA 22 k x) := ⟨fun j h1 _ => if_neg (by omega), rfl, fun _ _ _ _ _ _ _ => rfl⟩
theorem CHN.hole {v : RS} {k : Nat} {x : Int32} (ho : ¬ v.a 21 k = 36) : CHN v (v.setA 22 k x) := fun γ b L y _ hI hy => ⟨rfl, setA_ne (fun e => ho (by rw [← e]; exact hI.op y hy))⟩
theorem STG.hole {v : RS} {k : Nat} {x : Int32} (ho : ¬ v.a 21 k = 36) : STG v (v.setA 22 k x) := STG.fin (EQT.hole v k x) (CHN.hole ho) (Int.le_refl _) (Int.le_refl _)
theorem ARV.stg {v W : RS} (h : STG v W) {γ : Nat} {b : Bool} (hγ : (γ : Int) < goI W) (hq : ARV v γ b) : ARV W γ b := by
  obtain ⟨a1, a2, a3, a4, a5, a6, a7⟩ := h
  rcases hq with q | ⟨p, p1, p2, p3, p4, p5⟩
  · left
    cases b
    · exact (a3 γ hγ).2.2.2 q
    · exact (a3 γ hγ).2.2.1 q
  · refine Or.inr ⟨p, by have := a5.1; omega, ?_, ?_, by omega, ?_⟩
    · unfold gv at *; rw [a5.2.1 p p1]; exact p2
    · rw [a5.2.2.1 p p1]; exact p3
    · unfold gv at *
      rw [a5.2.2.2 p p1, a6, a7 (waI v - 1).toNat (by omega)]
      exact p5
theorem SITE.stg {s v W : RS} (h : STG v W) (hn : TN v) {γ : Nat} {b : Bool} {k : Nat} (hγ : (γ : Int) < goI W) (hs : SITE s v γ b k) : SITE s W γ b k := by
  obtain ⟨h1, L, h2, h3⟩ := hs
  obtain ⟨M, m1, m2⟩ := hn γ b (by have := h.2.1; omega)
  have e := ISCH.uniq h2 m1
  subst e
  obtain ⟨L1, c1, c2⟩ := h.2.2.2.1 γ b _ hγ h2 m2
  exact ⟨h1, _, c1, List.mem_append_right _ h3⟩
theorem JE.stg {s s1 v W f : RS} {g : Gh} {h o lv lv' : Nat} {rs : List Rec} (hE : EJ s W f g h o lv rs) (hg : STG v W) (hn : TN v) (hs : cdI s ≤ cdI s1) (hl : lv ≤ lv') {γ : Nat} {b : Bool} {k : Nat} (hγ : (γ : Int) < goI W) (a1 : ACC v γ) (a2 : b = true ∨ v.a 44 γ = 0) (a3 : SITE s1 v γ b k) : JE v f g γ b k h o lv' rs := by
  have q := hg.2.2.1
  have e47 : gv W 47 γ = gv v 47 γ := by unfold gv; rw [(q γ hγ).2.1]
  have acc : ACC W γ := ⟨hγ, by rw [(q γ hγ).1]; exact a1.2.1, fun δ d1 d2 => by rw [(q δ d2).1]; exact a1.2.2 δ d1 (by have := hg.2.1; omega)⟩
  have st : SITE s W γ b k := by
    have := a3.stg hg hn hγ
    exact ⟨by have := this.1; omega, this.2⟩
  obtain ⟨vt, j1, j2, j3⟩ := hE γ b k acc (by rw [(q γ hγ).1]; exact a2) st
  rw [e47] at j2 j3
  refine ⟨vt, ?_, j2, fun z => j3 (z.stg hg hγ)⟩
  have := hg.1
  rcases j1 with j1 | j1
  · exact Or.inl (by omega)
  · by_cases c : vt < lv'
    · exact Or.inl c
    · exact Or.inr ⟨by omega, by omega⟩
theorem EJ.stg {s s1 v W f : RS} {g : Gh} {h o lv lv' : Nat} {rs : List Rec} (hE : EJ s W f g h o lv rs) (hg : STG v W) (hn : TN v) (hs : cdI s ≤ cdI s1) (hl : lv ≤ lv') (hgo : goI W = goI v) : EJ s1 v f g h o lv' rs := fun γ b k a1 a2 a3 => JE.stg hE hg hn hs hl (by have := a1.1; omega) a1 a2 a3
theorem LAT.tbs {Z : Nat → Nat → Prop} {s1 u1 v W : RS} (h : LAT Z s1 u1 v) (hw : TBS v W) (hn : TN v) : LAT Z s1 u1 W := h.fin hw.1 hw.chn hn (by rw [hw.cd]; exact Int.le_refl _) (by rw [hw.go]; exact Int.le_refl _) (fun k _ _ => ⟨by rw [hw.2.1 21 (by decide) (by decide)], by rw [hw.2.1 23 (by decide) (by decide)], fun _ => by rw [hw.2.1 22 (by decide) (by decide)]⟩)
theorem TN.hole {v : RS} {k : Nat} {x : Int32} (hn : TN v) (ho : ¬ v.a 21 k = 36) : TN (v.setA 22 k x) := fun γ b hγ => by
  obtain ⟨L, l1, l2⟩ := hn γ b hγ
  exact ⟨L, (CHN.hole ho).eIS (EQT.hole v k x) hγ l1, l2⟩
theorem TN.tbs {v W : RS} (hn : TN v) (hw : TBS v W) : TN W := fun γ b hγ => by
  obtain ⟨L, l1, l2⟩ := hn γ b (by rw [hw.go] at hγ; exact hγ)
  exact ⟨L, hw.chn.eIS hw.1 hγ l1, fun x hx => by have := l2 x hx; rw [hw.cd]; exact this⟩
/-- body: a fault, or a statement -/
theorem BODY {N : Nat} {u : RS} {t : Nat} (st : Int32) (hl : LXI u) (ht : tpI u = t) (h9 : t < 998) : (∃ S, f_X12_body N u st = some S ∧ LX u S ∧ ¬ S.i 15 = 0) ∨ (f_X12_body N u st = some (TH u t st 2) ∧ u.i 15 = 0) := by
  have c0 : ∀ x : Int32, (∃ S, ((f_X12_can N u x).bind fun p2 => (if p2.1 = 0 then some p2.2 else f_X12_body_32 N p2.2 st)) = some S ∧ LX u S ∧ ¬ S.i 15 = 0) ∨ (((f_X12_can N u x).bind fun p2 => (if p2.1 = 0 then some p2.2 else f_X12_body_32 N p2.2 st)) = some (TH u t st 2) ∧ u.i 15 = 0) := fun x => by
    obtain ⟨p, ep, h1, h2, h3⟩ := p_cn (N := N) hl x
    rw [ep]
    show (∃ S, (if p.1 = 0 then some p.2 else f_X12_body_32 N p.2 st) = some S ∧ _) ∨ ((if p.1 = 0 then some p.2 else f_X12_body_32 N p.2 st) = _ ∧ _)
    rcases h3 with ⟨h3, h4⟩ | ⟨h3, h4, h5, h6⟩
    · rw [if_pos h3]
      exact Or.inl ⟨_, rfl, h1, h4⟩
    · rw [if_neg (by rw [h3]; decide), h4]
      unfold f_X12_body_32
      rw [p_th st 2 ht (by omega)]
      exact Or.inr ⟨rfl, h5⟩
  unfold f_X12_body
  by_cases c1 : u.i 10 = 410
  · rw [if_pos c1]; exact c0 0
  rw [if_neg c1]
  by_cases c2 : u.i 10 = 411
  · rw [if_pos c2]; exact c0 0
  rw [if_neg c2]
  exact c0 1
theorem MM.pcs {t : Nat} {st : Int32} {s u v : RS} (hv : PCS t st u v) (a3 : KP t s u) (a4 : SAME s u) (a5 : SNW s u) (a6 : RATE s u) : KP t s v ∧ SAME s v ∧ SNW s v ∧ RATE s v := by
  obtain ⟨v1, v2, v3, v4, v5, v6, -⟩ := hv
  exact ⟨a3.tr v3 (Nat.le_refl _), a4.tr v4, a5.tr v6 a3 v3, a6.tr v5⟩
/-- behind the sign that closes -/
theorem MM.clo {t : Nat} {st : Int32} {s R A v B : RS} (hI : INV s) (mR : MM t s R) (kA : KP t R A) (tA : TBL R A) (oA : A.i 19 = R.i 19 + 1) (dA : A.i 52 = R.i 52) (fA : fr R + 1 ≤ fr A) (tkA : tkI A = tkI R + 1) (hv : PC t st A v) (x1 : LX v B) (x2 : B.i 15 = 0) (x4 : B.i 19 = v.i 19 - 1) (x5 : fr v + 1 ≤ fr B) (x6 : tkI B = tkI v + 1) : MM t s B := by
  obtain ⟨a1, a2, a3, a4, a5, a6, a7, a8⟩ := mR
  obtain ⟨v1, v2, v3, v4, v5, v6, v7, v8, -⟩ := hv
  have kB : KP t s B := (((a3.tr kA (Nat.le_refl _)).tr v3 (Nat.le_refl _))).lx x1
  have A43 : A.i 43 = R.i 43 := tA.2.2 43 (by omega) (by omega) (by omega) (by omega)
  have A56 : A.i 56 = R.i 56 := tA.2.2 56 (by omega) (by omega) (by omega) (by omega)
  have A38 : A.i 38 = R.i 38 := tA.2.2 38 (by omega) (by omega) (by omega) (by omega)
  have e19 : B.i 19 = R.i 19 := by rw [x4, v4.1, oA, Int32.add_sub_cancel]
  have sm : SAME s B := a4.tr ⟨e19, (x1.2.2.1 43 (by omega) (by omega)).trans (v4.2.1.trans A43), (x1.2.2.1 52 (by omega) (by omega)).trans (v4.2.2.1.trans dA), (x1.2.2.1 56 (by omega) (by omega)).trans (v4.2.2.2.trans A56)⟩
  have e38 : B.i 38 = s.i 38 := x1.i38.trans (v5.trans (A38.trans a5))
  have rt : RATE s B := ((a6.tr (tA.rate (by omega) (by omega))).tr v6).tr (x1.tbl.rate (by omega) (by omega))
  exact ⟨hI.mkS kB x1.2.2.2.1 x2 (v1.2.2.2.1.lx x1) sm (SNW.eq e38 kB.2.2.2.2.2.1.2.1) rt (by omega) (by omega), x1.tp.trans v2, kB, sm, e38, rt, by omega, by omega⟩
theorem MM.em {t : Nat} {s u : RS} {o x : Int32} (hI : INV s) (h : MM t s u) (hc : cdI u + 1 - cdI s ≤ 3 * (fr u - fr s)) : MM t s (EM u o x) := by
  obtain ⟨a1, a2, a3, a4, a5, a6, a7, a8⟩ := h
  have cs := hI.cd
  have cu := a1.cd
  have k : KP t s (EM u o x) := a3.em cs.1 cu.2.2
  have rt : RATE s (EM u o x) := a6.em cu.1 cu.2.2 hc
  exact ⟨hI.mkS k (LXI.em a1.1) a1.2.2.1 (a1.2.2.2.1.em cu.1 cu.2.2) a4 (SNW.eq a5 k.2.2.2.2.2.1.2.1) rt (by show fr s ≤ fr u; omega) (by show tkI s ≤ tkI u; omega), a2, k, a4, a5, rt, a7, a8⟩
