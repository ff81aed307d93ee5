/-! reading: loops: tools -/
theorem TAB.cg {X V : RS} (h : TAB X) (hi : V.i = X.i) (ha : ∀ k : Nat, k ≠ 46 → V.a k = X.a k) : TAB V := by
  obtain ⟨⟨a0, b1, b2, b3, b4⟩, a1, a2, a3, a4, a5, a6, a7, a8, a9⟩ := h
  have eg : ∀ (k i : Nat), k ≠ 46 → gv V k i = gv X k i := fun k i e => by unfold gv; rw [ha k e]
  have e1 : cdI V = cdI X := by unfold cdI; rw [hi]
  have e2 : enI V = enI X := by unfold enI; rw [hi]
  have e3 : trI V = trI X := by unfold trI; rw [hi]
  have e4 : caI V = caI X := by unfold caI; rw [hi]
  have e5 : seI V = seI X := by unfold seI; rw [hi]
  have e6 : slI V = slI X := by unfold slI; rw [hi]
  have e7 : goI V = goI X := by unfold goI; rw [hi]
  have e8 : deI V = deI X := by unfold deI; rw [hi]
  have e9 : waI V = waI X := by unfold waI; rw [hi]
  have e10 : peI V = peI X := by unfold peI; rw [hi]
  have eh : ∀ (b : Bool) (γ : Nat), hd V b γ = hd X b γ := fun b γ => eg _ _ (by rcases bk_cases b with e | e <;> rw [e] <;> decide)
  have is : ∀ (y : Int) (L : List Nat), ISCH X y L → ISCH V y L := fun y L hI => hI.of (fun x _ => ⟨by rw [ha 21 (by decide)], by rw [ha 22 (by decide)]⟩)
  refine ⟨⟨fun γ b hγ => ?_, DJ.of a0 b1 (by omega) (fun γ b L _ h1 _ => by rw [eh]; exact is _ _ h1), fun p hp => ?_, fun w w' q1 q2 => ?_, fun p w q1 q2 q3 => ?_⟩, fun j hj => ?_, fun j hj => ?_, fun j hj => ?_, fun x hx => ?_, fun j hj => ?_, fun g hg => ?_, fun k hk => ?_, fun k hk => ?_, ?_⟩
  · obtain ⟨L, l1, l2⟩ := a0 γ b (by omega)
    exact ⟨L, by rw [eh]; exact is _ _ l1, fun x hx => by have := l2 x hx; omega⟩
  · rw [e10] at hp; rw [e3, eg 62 p (by decide)]; exact b2 p hp
  · rw [e9] at q2; rw [eg 57 _ (by decide), eg 57 _ (by decide)]; exact b3 w w' q1 q2
  · rw [e10] at q1; rw [e9] at q2; rw [eg 62 _ (by decide), eg 57 _ (by decide)] at q3; rw [eg 60 _ (by decide), eg 58 _ (by decide)]; exact b4 p w q1 q2 q3
  · rw [e2] at hj ⊢; rw [eg 27 _ (by decide)]; exact a1 j hj
  · rw [e4] at hj ⊢; rw [eg 37 _ (by decide)]; exact a2 j hj
  · rw [e3] at hj; rw [e4, eg 30 _ (by decide)]; exact a3 j hj
  · rw [e5] at hx
    rw [e6, e4, eg 40 _ (by decide), ha 41 (by decide)]
    have := a4 x hx
    refine ⟨this.1, this.2.1, ?_⟩
    rw [← this.2.2]
    constructor
    · rintro ⟨j, j1, j2⟩; exact ⟨j, j1, by rw [← j2, eg 36 _ (by decide)]⟩
    · rintro ⟨j, j1, j2⟩; exact ⟨j, j1, by rw [← j2, eg 36 _ (by decide)]⟩
  · rw [e4] at hj; rw [e6, eg 36 _ (by decide)]; exact a5 j hj
  · rw [e7] at hg; rw [e8, eg 47 _ (by decide)]; exact a6 g hg
  · rw [e10] at hk; rw [eg 60 _ (by decide), ha 61 (by decide)]; exact a7 k hk
  · rw [e9] at hk; rw [e3, e7, eg 57 _ (by decide), eg 58 _ (by decide)]; exact a8 k hk
  · rw [hi]; exact a9
theorem KP.cg {t : Nat} {s X V : RS} (h : KP t s X) (hi : V.i = X.i) (hb : V.b = X.b) (ha : ∀ k : Nat, k ≠ 46 → V.a k = X.a k) (h46 : ∀ γ : Nat, (γ : Int) < goI s → V.a 46 γ = s.a 46 γ ∨ TOPR s γ) : KP t s V := by
  obtain ⟨⟨a1, a1'⟩, a2, a3, a4, a5, a6, a7, a8, a9, a10, a11⟩ := h
  have eb : ∀ (k : Nat) (m : Int), k ≠ 46 → bel k m s V = bel k m s X := fun k m e => by unfold bel; rw [ha k e]
  have e1 : cdI V = cdI X := by unfold cdI; rw [hi]
  have e2 : enI V = enI X := by unfold enI; rw [hi]
  have e3 : trI V = trI X := by unfold trI; rw [hi]
  have e4 : caI V = caI X := by unfold caI; rw [hi]
  have e5 : seI V = seI X := by unfold seI; rw [hi]
  have e6 : slI V = slI X := by unfold slI; rw [hi]
  have e7 : goI V = goI X := by unfold goI; rw [hi]
  have e9 : waI V = waI X := by unfold waI; rw [hi]
  have e10 : peI V = peI X := by unfold peI; rw [hi]
  have eh : ∀ (b : Bool) (γ : Nat), hd V b γ = hd X b γ := fun b γ => by
    unfold hd gv
    rw [ha _ (by rcases bk_cases b with e | e <;> rw [e] <;> decide)]
  refine ⟨⟨⟨fun j hj => by rw [hi]; exact a1.1 j hj, fun k hk => (ha k (by omega)).trans (a1.2.1 k hk), by rw [hb]; exact a1.2.2⟩, fun z => by rw [hi]; exact a1' z⟩, ?_, ?_, ?_, ?_, ?_, ?_, fun γ b L hγ hI hL => ?_, ?_, ?_, fun k k1 k2 => ?_⟩
  · unfold KC; rw [e1, eb _ _ (by decide), eb _ _ (by decide), eb _ _ (by decide)]; exact a2
  · unfold KE; rw [e2, eb _ _ (by decide), eb _ _ (by decide), eb _ _ (by decide), eb _ _ (by decide)]; exact a3
  · unfold KT; rw [e3, eb _ _ (by decide), eb _ _ (by decide), eb _ _ (by decide)]; exact a4
  · unfold KH; unfold gv; rw [e4, eb _ _ (by decide), eb _ _ (by decide), eb _ _ (by decide), eb _ _ (by decide), e6, ha 36 (by decide)]; exact a5
  · unfold KS; rw [e5, e6, eb _ _ (by decide), eb _ _ (by decide)]; exact a6
  · unfold KG; rw [e7, eb _ _ (by decide), eb _ _ (by decide), ha 50 (by decide), ha 51 (by decide)]
    exact ⟨a7.1, a7.2.1, a7.2.2.1, a7.2.2.2.1, a7.2.2.2.2.1, h46⟩
  · obtain ⟨L1, c1, c2⟩ := a8 γ b L hγ hI hL
    refine ⟨L1, ?_, by rw [e1]; exact c2⟩
    rw [eh]
    exact c1.of (fun x _ => ⟨by rw [ha 21 (by decide)], by rw [ha 22 (by decide)]⟩)
  · unfold KW; rw [e9, eb _ _ (by decide), eb _ _ (by decide)]; exact a9
  · unfold KQ; rw [e10, eb _ _ (by decide), eb _ _ (by decide), eb _ _ (by decide)]; exact a10
  · rw [eb k _ (by omega)]; exact a11 k k1 k2
/-- behind a loop's goal -/
def LGF (s U V : RS) (t γ : Nat) : Prop := (γ : Int) = goI U ∧ goI V = goI U + 1 ∧ (∀ j : Nat, j ≠ 43 → V.i j = U.i j) ∧ V.b 9 = U.b 9 ∧ (∀ k : Nat, k < 44 ∨ 51 < k → V.a k = U.a k) ∧ (∀ (k δ : Nat), k ≠ 46 → δ ≠ γ → V.a k δ = U.a k δ) ∧ V.a 44 γ = 0 ∧ V.a 47 γ = U.i 52 ∧ (∀ b : Bool, hd V b γ = -1) ∧ V.a 50 γ = 0 ∧ V.a 51 γ = 0 ∧ KP t s V ∧ TAB V
theorem LGR.f {t : Nat} {s U V : RS} (h : LGR U V) (hk : KP t s U) (ht : TAB U) (h0 : 0 ≤ goI s) (h4 : goI U < 460) (hd0 : 0 ≤ deI U) : LGF s U V t (U.i 43).toNatClampNeg := by
  obtain ⟨h1, h2, h3, h5, h6⟩ := h
  have kg := hk.2.2.2.2.2.2.1
  have u0 : 0 ≤ goI U := by have := kg.1; omega
  have gn := gN u0
  have kX := hk.go (w := 0) (n := 0) h0 h4
  have tX := ht.go (w := 0) (n := 0) u0 h4 hd0
  have eX := GO.eGO (u := U) (w := 0) (n := 0) u0 h4
  have iX : ∀ j : Nat, j ≠ 43 → (GO U 0 0).i j = U.i j := fun j hj => GO.eI hj
  have aX : ∀ k : Nat, (k < 44 ∨ k = 45 ∨ 51 < k) → (GO U 0 0).a k = U.a k := fun k hk' => GO.eA hk'
  have loX : ∀ (k j : Nat), j ≠ (U.i 43).toNatClampNeg → (GO U 0 0).a k j = U.a k j := fun k j hj => GO.lo hj
  have x44 : (GO U 0 0).a 44 (U.i 43).toNatClampNeg = 0 := GO.a44
  have x47 : (GO U 0 0).a 47 (U.i 43).toNatClampNeg = U.i 52 := GO.a47
  have xh : ∀ b : Bool, hd (GO U 0 0) b (U.i 43).toNatClampNeg = -1 := fun b => GO.eHD0
  have x50 : (GO U 0 0).a 50 (U.i 43).toNatClampNeg = 0 := GO.a50
  have x51 : (GO U 0 0).a 51 (U.i 43).toNatClampNeg = 0 := GO.a51
  have bX : (GO U 0 0).b 9 = U.b 9 := rfl
  generalize GO U 0 0 = X at *
  refine ⟨gn, by unfold goI at *; rw [h1]; exact eX, fun j hj => by rw [h1]; exact iX j hj, by rw [h2]; exact bX, fun k hk' => (h3 k (by omega)).trans (aX k (by omega)), fun k δ e1 e2 => by rw [h3 k e1]; exact loX k δ e2, by rw [h3 44 (by decide)]; exact x44, by rw [h3 47 (by decide)]; exact x47, fun b => ?_, by rw [h3 50 (by decide)]; exact x50, by rw [h3 51 (by decide)]; exact x51, kX.cg h1 h2 h3 (fun γ hγ => ?_), tX.cg h1 h3⟩
  · have : hd V b (U.i 43).toNatClampNeg = hd X b (U.i 43).toNatClampNeg := by
      unfold hd gv
      rw [h3 _ (by rcases bk_cases b with e | e <;> rw [e] <;> decide)]
    rw [this]; exact xh b
  · have hγU : (γ : Int) < goI U := by have := kg.1; omega
    rcases h5 γ with q | ⟨q1, q2, q3⟩
    · rw [q, loX 46 γ (by omega)]
      exact kg.2.2.2.2.2 γ hγ
    · refine Or.inr ⟨hγ, fun δ d1 d2 => ?_⟩
      obtain ⟨r1, r2⟩ := q3 δ d1 (by have := kg.1; omega)
      rw [kg.2.1 δ d2] at r1
      refine ⟨r1, ?_⟩
      rcases kg.2.2.2.2.2 δ d2 with r | r
      · rw [r] at r2; exact Or.inr r2
      · exact (r.2 δ (Nat.le_refl _) d2).2
theorem PRS.lgr {s U V : RS} (hp : PRS s) (h : LGR U V) (hg : goI U = goI s) (h44 : bel 44 (goI s) s U) (h46 : bel 46 (goI s) s U) (h0 : 0 ≤ goI U) (h4 : goI U < 460) : PRL V := by
  obtain ⟨h1, h2, h3, h5, h6⟩ := h
  have gn := gN h0
  have gV : goI V = goI U + 1 := by unfold goI; rw [h1]; exact GO.eGO (u := U) (w := 0) (n := 0) h0 h4
  have lo : ∀ (k j : Nat), k ≠ 46 → j ≠ (U.i 43).toNatClampNeg → V.a k j = U.a k j := fun k j e1 e2 => by rw [h3 k e1]; exact GO.lo e2
  have v44 : V.a 44 (U.i 43).toNatClampNeg = 0 := by rw [h3 44 (by decide)]; exact GO.a44
  have accU : ∀ γ : Nat, γ ≠ (U.i 43).toNatClampNeg → ACC V γ → ACC s γ := fun γ e a => by
    have e1 := a.1
    have e44 : V.a 44 γ = s.a 44 γ := by rw [lo 44 γ (by decide) e, h44 γ (by omega)]
    refine ⟨by omega, by rw [← e44]; exact a.2.1, fun δ d1 d2 => ?_⟩
    have := a.2.2 δ d1 (by omega)
    rw [lo 44 δ (by decide) (by omega), h44 δ d2] at this
    exact this
  refine ⟨fun γ a1 a2 a3 => ?_, fun γ a1 => ?_⟩
  · by_cases e : γ = (U.i 43).toNatClampNeg
    · subst e
      rw [v44] at a2
      exact absurd a2 (by decide)
    · have as := accU γ e a1
      have e44 : V.a 44 γ = s.a 44 γ := by rw [lo 44 γ (by decide) e, h44 γ as.1]
      rcases h5 γ with q | ⟨q1, q2, q3⟩
      · have e46 : gv V 46 γ = gv s 46 γ := by unfold gv; rw [q, GO.lo e, h46 γ as.1]
        rw [e46] at a3 ⊢
        obtain ⟨l1, l2, l3⟩ := hp.1 γ as (by rw [← e44]; exact a2) a3
        refine ⟨l1, by omega, ?_⟩
        rw [lo 44 _ (by decide) (by omega), h44 _ (by omega)]
        exact l3
      · have e46 : gv V 46 γ = goI U := by unfold gv; rw [q2]; rfl
        rw [e46]
        refine ⟨by omega, by omega, ?_⟩
        have : (goI U).toNat = (U.i 43).toNatClampNeg := rfl
        rw [this]; exact v44
  · have := (a1.2 (U.i 43).toNatClampNeg (by have := a1.1; omega) (by omega)).1
    rw [v44] at this
    exact absurd this (by decide)
theorem YE.push {s V : RS} {rs : List Rec} {γ0 : Nat} (h : YE s rs) (hg : goI V = goI s + 1) (h0 : (γ0 : Int) = goI s) (h44 : bel 44 (goI s) s V) (h47 : bel 47 (goI s) s V) (hn : ¬ V.a 44 γ0 = 3) : YE V rs := by
  intro γ g1 g2 g3
  by_cases e : γ = γ0
  · subst e; exact absurd g2 hn
  · have gs : (γ : Int) < goI s := by omega
    have := h γ gs (by rw [← h44 γ gs]; exact g2) (fun δ d1 d2 => by
      have := g3 δ d1 (by omega)
      rw [h44 δ d2] at this
      exact this)
    unfold gv at this ⊢
    rw [h47 γ gs]
    exact this
theorem CX.upv {s s1 : RS} {h o v : Nat} {rs : List Rec} (hc : CX s h o v rs) (h' v' : Nat) (hd : s1.i 52 = s.i 52) (hf : fr s ≤ fr s1) (h9 : fr s1 ≤ 900) (hh : (h' : Int) ≤ fr s1) (hv : (v' : Int) ≤ fr s1) : CX s1 h' o v' rs := by
  obtain ⟨c1, c2, c3, c4, c5, c6, c7, c8⟩ := hc
  have hde : deI s1 = deI s := by unfold deI; rw [hd]
  exact ⟨by omega, hh, by omega, hv, by omega, c6, h9, by omega⟩
/-- a step anywhere -/
theorem COD.stp {s f : RS} {C : Nat → Bool} {k h o v v' : Nat} {rs : List Rec} {E : Gh → Prop} (hc : CX s h o v rs) (hk : (k : Int) < cdI f) (h21 : gv f 21 k = 1) (hr : ∀ g : Gh, g.isC = C → E g → recsOK f g k v rs) (rest : COD f C ((k : Int) + 1) h o v' rs E) : COD f C k h o v rs E := by
  have c := COD.ins (E := fun g => E g ∧ FL f g v' ((k : Int) + 1) ((k : Int) + 1) h o rs) (C := C) hc hk (fun g hg hE => ⟨okJ_1 (c := (h, o, v, false, rs)) h21 hE.2.fs, hr g hg hE.1⟩)
  exact COD.seq c rest (fun g _ hE => hE) (fun g _ hE hF => ⟨hE, hF⟩)
/-- a push of 1 and a jump where it is 0 -/
theorem CODS.pj {s f : RS} {C : Nat → Bool} {k h o v : Nat} {rs : List Rec} {E : Gh → Prop} (hc : CX s h o v rs) (hc2 : CX s (h + 1) o v rs) (hk : (k : Int) + 1 < cdI f) (h21 : gv f 21 k = 2) (h22 : gv f 22 k = 1) (j21 : gv f 21 (k + 1) = 13) (hE : ∀ g : Gh, g.isC = C → E g → recsOK f g k v rs ∧ recsOK f g (k + 1) v rs ∧ FL f g v ((k : Int) + 2) ((k : Int) + 2) h o rs) : CODS f C k h o v rs E := by
  refine ⟨fun k' c => (k' = k ∧ c = (h, o, v, false, rs)) ∨ (k' = k + 1 ∧ c = (h + 1, o, v, true, rs)), ⟨by omega, by omega, (h, o, v, false, rs), Or.inl ⟨Int.toNat_natCast k, rfl⟩, rfl, Nat.le_refl _, rfl, rfl, Nat.le_refl _⟩, fun g h1 h2 h3 k' c q => ?_⟩
  obtain ⟨p1, p2, p3⟩ := hE g h1 h3
  rcases q with ⟨rfl, rfl⟩ | ⟨rfl, rfl⟩
  · refine hc.good (fun q => by cases q) (okJ_2 (c := (h, o, v, false, rs)) h21 ?_) p1
    exact ⟨by omega, fun _ => ⟨(h + 1, o, v, true, rs), h2 _ _ (Or.inr ⟨rfl, rfl⟩), rfl, Nat.le_refl _, fun _ => h22, rfl, Nat.le_refl _⟩⟩
  · refine hc2.good (fun _ => by omega) (okJ_13 (c := (h + 1, o, v, true, rs)) j21 ⟨by show 1 ≤ h + 1; omega, (fun q => (by cases q)), ?_⟩) p2
    have e : (((k + 1 : Nat) : Int) + 1) = (k : Int) + 2 := by omega
    show FL f g v (((k + 1 : Nat) : Int) + 1) (((k + 1 : Nat) : Int) + 1) h o rs
    rw [e]
    exact p3
theorem lvA_full {f : RS} {d h vt : Nat} {x : Int} : ∀ {rs : List Rec}, rs.length ≤ d → lvA f d h vt x rs
  | [], _ => True.intro
  | _ :: _, h => Or.inl h
theorem dA_full {d : Nat} : ∀ {rs : List Rec}, rs.length ≤ d → dA d rs = rs
  | [], _ => rfl
  | _ :: _, h => if_pos h
theorem oA_full {d o : Nat} : ∀ {rs : List Rec}, rs.length ≤ d → oA d o rs = o
  | [], _ => rfl
  | _ :: _, h => if_pos h
theorem JE.mk {v f : RS} {g : Gh} {γ : Nat} {b : Bool} {k h o lv lv' : Nat} {rs : List Rec} {x : Int} (hl : lv < lv') (hx : gv f 22 k = x) (hd : (gv v 47 γ).toNat = rs.length) (hF : ARV v γ b → FL f g lv x x h o rs) : JE v f g γ b k h o lv' rs := by
  have full : rs.length ≤ (gv v 47 γ).toNat := by omega
  by_cases ca : ARV v γ b
  · obtain ⟨f1, f2, f3⟩ := hF ca
    by_cases cx : x < cdI f
    · obtain ⟨c, d1, d2, d3, d4, d5, d6⟩ := f3 cx
      refine ⟨c.v, Or.inl (by omega), lvA_full full, fun _ _ => ⟨by rw [hx]; exact f1, by rw [hx]; exact f2, fun _ => ⟨c, by rw [hx]; exact d1, d2, ?_, d4, ?_, rfl⟩⟩⟩
      · rw [oA_full full]; exact d3
      · rw [dA_full full]; exact d5
    · exact ⟨lv, Or.inl hl, lvA_full full, fun _ _ => ⟨by rw [hx]; exact f1, by rw [hx]; exact f2, fun q => by rw [hx] at q; exact absurd q cx⟩⟩
  · exact ⟨lv, Or.inl hl, lvA_full full, fun q => absurd q ca⟩
theorem ARV.top {v : RS} {γ : Nat} {b : Bool} (ht : TAB v) (hw : ∀ w : Nat, (w : Int) < waI v → gv v 58 w ≤ γ) (h : ARV v γ b) : v.a (fgB b) γ = 1 := by
  rcases h with h | ⟨p, p1, p2, p3, p4, p5⟩
  · exact h
  · have e : ((waI v - 1).toNat : Int) = waI v - 1 := Int.toNat_of_nonneg (by omega)
    have a := ht.1.2.2.2.2 p (waI v - 1).toNat p1 (by omega) p5
    have b := hw (waI v - 1).toNat (by omega)
    omega
/-- the chains of the last goal are filled, the goal is gone -/
def PPR (γ0 : Nat) (Lc Lb : List Nat) (xc xb : Int32) (Z : Nat → Prop) (v W : RS) : Prop := EQT v W ∧ cdI v ≤ cdI W ∧ goI W = γ0 ∧ goI v = (γ0 : Int) + 1 ∧ ISCH v (hd v false γ0) Lc ∧ ISCH v (hd v true γ0) Lb ∧ (∀ k : Nat, (k : Int) < cdI v → W.a 21 k = v.a 21 k ∧ W.a 23 k = v.a 23 k) ∧ (∀ k : Nat, (k : Int) < cdI v → k ∉ Lc → k ∉ Lb → ¬ Z k → W.a 22 k = v.a 22 k) ∧ (∀ k ∈ Lc, W.a 22 k = xc) ∧ (∀ k ∈ Lb, W.a 22 k = xb) ∧ (∀ k : Nat, Z k → ¬ v.a 21 k = 36)
theorem PPR.chn {γ0 : Nat} {Lc Lb : List Nat} {xc xb : Int32} {Z : Nat → Prop} {v W : RS} (h : PPR γ0 Lc Lb xc xb Z v W) (ht : TAB v) : CHN v W := by
  obtain ⟨h1, h2, h3, h4, h5, h6, h7, h8, h9, h10, h11⟩ := h
  intro γ b L x hγ hI hx
  obtain ⟨M, m1, m2⟩ := ht.1.1 γ b (by omega)
  have e := ISCH.uniq hI m1
  subst e
  have hlt := m2 x hx
  refine ⟨(h7 x hlt).1, h8 x hlt (fun q => ?_) (fun q => ?_) (fun q => h11 x q (hI.op x hx))⟩
  · have := (ht.1.2.1 γ γ0 b false _ Lc x (by omega) (by omega) hI h5 hx q).1; omega
  · have := (ht.1.2.1 γ γ0 b true _ Lb x (by omega) (by omega) hI h6 hx q).1; omega
theorem PPR.nop {γ0 : Nat} {Lc Lb : List Nat} {xc xb : Int32} {Z : Nat → Prop} {v W : RS} (h : PPR γ0 Lc Lb xc xb Z v W) (ht : TAB v) {k : Nat} (hk : k ∈ Lc ∨ k ∈ Lb) : ¬ OPN W k := by
  have hc := h.chn ht
  obtain ⟨h1, h2, h3, h4, h5, h6, h7, h8, h9, h10, h11⟩ := h
  rintro ⟨γ, b, L, x1, x2, x3⟩
  obtain ⟨M, m1, m2⟩ := ht.1.1 γ b (by omega)
  have e := ISCH.uniq x2 (hc.eIS h1 x1 m1)
  subst e
  rcases hk with hk | hk
  · have := (ht.1.2.1 γ γ0 b false _ Lc k (by omega) (by omega) m1 h5 x3 hk).1; omega
  · have := (ht.1.2.1 γ γ0 b true _ Lb k (by omega) (by omega) m1 h6 x3 hk).1; omega
theorem PPR.opn {γ0 : Nat} {Lc Lb : List Nat} {xc xb : Int32} {Z : Nat → Prop} {v W : RS} (h : PPR γ0 Lc Lb xc xb Z v W) {k : Nat} (hk : k ∈ Lc ∨ k ∈ Lb) : OPN v k := by
  obtain ⟨h1, h2, h3, h4, h5, h6, h7, h8, h9, h10, h11⟩ := h
  rcases hk with hk | hk
  · exact ⟨γ0, false, Lc, by omega, h5, hk⟩
  · exact ⟨γ0, true, Lb, by omega, h6, hk⟩
theorem PPR.lat {γ0 : Nat} {Lc Lb : List Nat} {xc xb : Int32} {Z : Nat → Prop} {v W s1 u1 : RS} (h : PPR γ0 Lc Lb xc xb Z v W) (ht : TAB v) (hl : LAT noZ s1 u1 v) (hz : ∀ k : Nat, cdI s1 ≤ k → (k : Int) < cdI u1 → ¬ Z k) : LAT noZ s1 u1 W := by
  have hc := h.chn ht
  have hop : ∀ k : Nat, k ∈ Lc ∨ k ∈ Lb → OPN v k := fun k hk => h.opn hk
  obtain ⟨h1, h2, h3, h4, h5, h6, h7, h8, h9, h10, h11⟩ := h
  refine hl.fin h1 hc ht.1.1 h2 (by omega) (fun k k1 k2 => ?_)
  have hlt : (k : Int) < cdI v := by have := hl.1.1; omega
  exact ⟨(h7 k hlt).1, (h7 k hlt).2, fun q => h8 k hlt (fun z => q (hop k (Or.inl z))) (fun z => q (hop k (Or.inr z))) (hz k k1 k2)⟩
theorem PPR.f {γ0 : Nat} {Lc Lb : List Nat} {xc xb : Int32} {Z : Nat → Prop} {s v W f : RS} (h : PPR γ0 Lc Lb xc xb Z v W) (ht : TAB v) (hA : AG0 s W f) {b : Bool} {k : Nat} (hs : SITE s v γ0 b k) : gv f 22 k = (if b = true then xb else xc).toInt := by
  obtain ⟨a1, L, a2, a3⟩ := hs
  have hk : k ∈ Lc ∨ k ∈ Lb := by
    cases b
    · left; rw [← ISCH.uniq a2 h.2.2.2.2.1]; exact a3
    · right; rw [← ISCH.uniq a2 h.2.2.2.2.2.1]; exact a3
  have hn := h.nop ht hk
  have hlt : (k : Int) < cdI v := by
    obtain ⟨M, m1, m2⟩ := ht.1.1 γ0 b (by have := h.2.2.2.1; omega)
    exact m2 k (by rw [← ISCH.uniq a2 m1]; exact a3)
  have e := (hA.2.2.2.2.1 k a1 (by have := h.2.1; omega)).2.2 hn
  unfold gv
  rw [e]
  cases b
  · have : k ∈ Lc := by rw [← ISCH.uniq a2 h.2.2.2.2.1]; exact a3
    rw [if_neg (by decide), h.2.2.2.2.2.2.2.2.1 k this]
  · have : k ∈ Lb := by rw [← ISCH.uniq a2 h.2.2.2.2.2.1]; exact a3
    rw [if_pos rfl, h.2.2.2.2.2.2.2.2.2.1 k this]
