/-! reading: try: an end without a finally -/
theorem TAB.wd {X V : RS} (h : TAB X) (hi : ∀ j : Nat, j ≠ 56 → V.i j = X.i j) (ha : ∀ k : Nat, k ≠ 32 → V.a k = X.a k) (e9 : waI V ≤ waI X) : TAB V := by
  obtain ⟨⟨a0, b1, b2, b3, b4⟩, a1, a2, a3, a4, a5, a6, a7, a8, a9⟩ := h
  have eg : ∀ (k i : Nat), k ≠ 32 → gv V k i = gv X k i := fun k i e => by unfold gv; rw [ha k e]
  have e1 : cdI V = cdI X := by unfold cdI; rw [hi 20 (by decide)]
  have e2 : enI V = enI X := by unfold enI; rw [hi 24 (by decide)]
  have e3 : trI V = trI X := by unfold trI; rw [hi 29 (by decide)]
  have e4 : caI V = caI X := by unfold caI; rw [hi 33 (by decide)]
  have e5 : seI V = seI X := by unfold seI; rw [hi 38 (by decide)]
  have e6 : slI V = slI X := by unfold slI; rw [hi 42 (by decide)]
  have e7 : goI V = goI X := by unfold goI; rw [hi 43 (by decide)]
  have e8 : deI V = deI X := by unfold deI; rw [hi 52 (by decide)]
  have e10 : peI V = peI X := by unfold peI; rw [hi 59 (by decide)]
  have eh : ∀ (b : Bool) (γ : Nat), hd V b γ = hd X b γ := fun b γ => eg _ _ (by rcases bk_cases b with e | e <;> rw [e] <;> decide)
  have is : ∀ (y : Int) (L : List Nat), ISCH X y L → ISCH V y L := fun y L hI => hI.of (fun x _ => ⟨by rw [ha 21 (by decide)], by rw [ha 22 (by decide)]⟩)
  refine ⟨⟨fun γ b hγ => ?_, DJ.of a0 b1 (by omega) (fun γ b L _ h1 _ => by rw [eh]; exact is _ _ h1), fun p hp => ?_, fun w w' q1 q2 => ?_, fun p w q1 q2 q3 => ?_⟩, fun j hj => ?_, fun j hj => ?_, fun j hj => ?_, fun x hx => ?_, fun j hj => ?_, fun g hg => ?_, fun k hk => ?_, fun k hk => ?_, ?_⟩
  · obtain ⟨L, l1, l2⟩ := a0 γ b (by omega)
    exact ⟨L, by rw [eh]; exact is _ _ l1, fun x hx => by have := l2 x hx; omega⟩
  · rw [e10] at hp; rw [e3, eg 62 p (by decide)]; exact b2 p hp
  · have q2 : _ := (show (w' : Int) < waI X by omega); rw [eg 57 _ (by decide), eg 57 _ (by decide)]; exact b3 w w' q1 q2
  · rw [e10] at q1; have q2 : _ := (show (w : Int) < waI X by omega); rw [eg 62 _ (by decide), eg 57 _ (by decide)] at q3; rw [eg 60 _ (by decide), eg 58 _ (by decide)]; exact b4 p w q1 q2 q3
  · rw [e2] at hj ⊢; rw [eg 27 _ (by decide)]; exact a1 j hj
  · rw [e4] at hj ⊢; rw [eg 37 _ (by decide)]; exact a2 j hj
  · rw [e3] at hj; rw [e4, eg 30 _ (by decide)]; exact a3 j hj
  · rw [e5] at hx
    rw [e6, e4, eg 40 _ (by decide), ha 41 (by decide)]
    have := a4 x hx
    refine ⟨this.1, this.2.1, ?_⟩
    rw [← this.2.2]
    constructor
    · rintro ⟨j, j1, j2⟩; exact ⟨j, j1, by rw [← j2, eg 36 _ (by decide)]⟩
    · rintro ⟨j, j1, j2⟩; exact ⟨j, j1, by rw [← j2, eg 36 _ (by decide)]⟩
  · rw [e4] at hj; rw [e6, eg 36 _ (by decide)]; exact a5 j hj
  · rw [e7] at hg; rw [e8, eg 47 _ (by decide)]; exact a6 g hg
  · rw [e10] at hk; rw [eg 60 _ (by decide), ha 61 (by decide)]; exact a7 k hk
  · have hk : _ := (show (k : Int) < waI X by omega); rw [e3, e7, eg 57 _ (by decide), eg 58 _ (by decide)]; exact a8 k hk
  · rw [hi 75 (by decide)]; exact a9
theorem KP.wd {t : Nat} {s X V : RS} (h : KP t s X) (hi : ∀ j : Nat, j ≠ 56 → V.i j = X.i j) (hb : V.b = X.b) (ha : V.a = X.a) (e9 : waI s ≤ waI V) : KP t s V := by
  obtain ⟨⟨a1, a1'⟩, a2, a3, a4, a5, a6, a7, a8, a9, a10, a11⟩ := h
  have eb : ∀ (k : Nat) (m : Int), k ≠ 32 ∨ True → bel k m s V = bel k m s X := fun k m _ => by unfold bel; rw [ha]
  have e1 : cdI V = cdI X := by unfold cdI; rw [hi 20 (by decide)]
  have e2 : enI V = enI X := by unfold enI; rw [hi 24 (by decide)]
  have e3 : trI V = trI X := by unfold trI; rw [hi 29 (by decide)]
  have e4 : caI V = caI X := by unfold caI; rw [hi 33 (by decide)]
  have e5 : seI V = seI X := by unfold seI; rw [hi 38 (by decide)]
  have e6 : slI V = slI X := by unfold slI; rw [hi 42 (by decide)]
  have e7 : goI V = goI X := by unfold goI; rw [hi 43 (by decide)]
  have e10 : peI V = peI X := by unfold peI; rw [hi 59 (by decide)]
  have eh : ∀ (b : Bool) (γ : Nat), hd V b γ = hd X b γ := fun b γ => by
    unfold hd gv
    rw [ha]
  refine ⟨⟨⟨fun j hj => by rw [hi j (by omega)]; exact a1.1 j hj, fun k hk => by rw [ha]; exact a1.2.1 k hk, by rw [hb]; exact a1.2.2⟩, fun z => by rw [hi 18 (by decide)]; exact a1' z⟩, ?_, ?_, ?_, ?_, ?_, ?_, fun γ b L hγ hI hL => ?_, ?_, ?_, fun k k1 k2 => ?_⟩
  · unfold KC; rw [e1, eb _ _ (Or.inr trivial), eb _ _ (Or.inr trivial), eb _ _ (Or.inr trivial)]; exact a2
  · unfold KE; rw [e2, eb _ _ (Or.inr trivial), eb _ _ (Or.inr trivial), eb _ _ (Or.inr trivial), eb _ _ (Or.inr trivial)]; exact a3
  · unfold KT; rw [e3, eb 30 _ (Or.inr trivial), eb 31 _ (Or.inr trivial)]; exact ⟨a4.1, a4.2.1, a4.2.2.1, fun j hj => (by rw [ha] : V.a 32 j = X.a 32 j).trans (a4.2.2.2 j hj)⟩
  · unfold KH; unfold gv; rw [e4, eb _ _ (Or.inr trivial), eb _ _ (Or.inr trivial), eb _ _ (Or.inr trivial), eb _ _ (Or.inr trivial), e6, ha]; exact a5
  · unfold KS; rw [e5, e6, eb _ _ (Or.inr trivial), eb _ _ (Or.inr trivial)]; exact a6
  · unfold KG; rw [e7, eb _ _ (Or.inr trivial), eb _ _ (Or.inr trivial), ha]; exact a7
  · obtain ⟨L1, c1, c2⟩ := a8 γ b L hγ hI hL
    refine ⟨L1, ?_, by rw [e1]; exact c2⟩
    rw [eh]
    exact c1.of (fun x _ => ⟨by rw [ha], by rw [ha]⟩)
  · unfold KW; rw [eb 57 _ (Or.inr trivial), eb 58 _ (Or.inr trivial)]; exact ⟨e9, a9.2.1, a9.2.2⟩
  · unfold KQ; rw [e10, eb _ _ (Or.inr trivial), eb _ _ (Or.inr trivial), eb _ _ (Or.inr trivial)]; exact a10
  · rw [eb k _ (Or.inr trivial)]; exact a11 k k1 k2
theorem TRN {N : Nat} (hN : 1000 ≤ N) {m : Nat} {s w : RS} {t id : Nat} {CL : List Nat} {e : Int} {P : RS → Prop} {x1 : Int32} (hI : INV s) (h9 : t < 996) (hid : (id : Int) = trI s) (hw : TI t s id CL e w) (hno : w.a 67 t = 1 ∨ CL ≠ []) (ibx : ib x1 1000) (nx : x1.toNatClampNeg = t) (hC : ∀ (u : RS), PS t s u → fr w ≤ fr u → ok (f_X12_parse_10 N m u) P) : ok ((f_X12_trying_417 N w x1).bind fun p => f_X12_parse_10 N m p) P := by
  obtain ⟨⟨a1, a2, a3, a4⟩, ⟨b1, b2, b3, b4, b5⟩, ⟨c1, c2⟩, ⟨d1, d2, d3⟩, ⟨e1, e2, e3, e4⟩, ⟨f1, f2, f3⟩, ⟨g1, g2, g3, g4⟩, ⟨h1, h2⟩, k1⟩ := (show TI t s id CL e w from hw)
  have ns := hI.2.2.2.2
  have fw := a1.1.f0
  have hop := hI.op
  have ws0 := ns.2.2.2.2.2.2.2.2.2.1
  have i1 : (1 : Int32).toInt = 1 := by decide
  unfold f_X12_trying_417
  rw [bind_some]
  obtain ⟨Y, hY⟩ : ∃ Y, Y = RS.setI w 56 ((w.i 56) - 1) := ⟨_, rfl⟩
  have yi : ∀ j : Nat, j ≠ 56 → Y.i j = w.i j := fun j hj => by rw [hY]; exact if_neg hj
  have ya : Y.a = w.a := by rw [hY]; rfl
  have yb : Y.b = w.b := by rw [hY]; rfl
  have Y56 : Y.i 56 = s.i 56 := by
    have e : Y.i 56 = w.i 56 - 1 := by rw [hY]; rfl
    have h56 : (w.i 56).toInt = (s.i 56).toInt + 1 := b4
    have hs : (s.i 56).toInt = waI s := rfl
    refine Int32.toInt_inj.mp ?_
    rw [e, toInt_sub] <;> rw [i1] <;> omega
  rw [← hY]
  clear hY
  have waY : waI Y = waI s := by unfold waI; rw [Y56]
  have tY : TAB Y := a1.2.2.2.1.wd yi (fun k _ => by rw [ya]) (by omega)
  have kY : KP t s Y := a3.wd yi yb ya (by omega)
  have lY : LXI Y := a1.1.of (yi 2 (by decide)) (yi 10 (by decide)) (yi 11 (by decide)) (yi 12 (by decide)) (yi 14 (by decide)) (by rw [yb])
  have fY : fr Y = fr w := by unfold fr; rw [yi 11 (by decide)]
  have tkY : tkI Y = tkI w := by unfold tkI; rw [yi 17 (by decide)]
  have trY : trI Y = trI w := by unfold trI; rw [yi 29 (by decide)]
  have cdY : cdI Y = cdI w := by unfold cdI; rw [yi 20 (by decide)]
  have ra : RATE s Y := by
    have q2 : enI Y = enI w := by unfold enI; rw [yi 24 (by decide)]
    have q4 : caI Y = caI w := by unfold caI; rw [yi 33 (by decide)]
    have q5 : slI Y = slI w := by unfold slI; rw [yi 42 (by decide)]
    have q6 : peI Y = peI w := by unfold peI; rw [yi 59 (by decide)]
    have := e4 hno
    unfold RATN at d1
    unfold RATE
    rw [cdY, q2, trY, q4, q5, q6, fY, tkY]
    omega
  refine TREND hN hI (by omega) (Or.inr rfl) ibx nx lY ((yi 15 (by decide)).trans a1.2.2.1) tY (by unfold tpI; rw [yi 63 (by decide)]; exact a2) kY ((yi 19 (by decide)).trans b1) ((yi 43 (by decide)).trans b2) ((yi 52 (by decide)).trans b3) Y56 ((yi 38 (by decide)).trans b5) ra (by omega) (by omega) (by rw [ya]; exact e2) hid (by omega) (fun u hu hf => hC u hu (by omega)) (fun X R x x20 xi xb xa x32 x32i tX kX hR tR kR hx hx' z => ?_)
  have zw : ¬ 0 ≤ w.i 18 := fun q => z (by rw [yi 18 (by decide)]; exact q)
  have Ri : ∀ j : Nat, j ≠ 52 → j ≠ 56 → R.i j = w.i j := fun j q1 q2 => by rw [hR.1, xi j q1, yi j q2]
  have Ra : ∀ k : Nat, k ≠ 32 → k ≠ 50 → k ≠ 51 → k ≠ 62 → R.a k = w.a k := fun k q1 q2 q3 q4 => by rw [hR.2.2.1 k q2 q3 q4, xa k q1, ya]
  have R32 : ∀ j : Nat, j ≠ id → R.a 32 j = w.a 32 j := fun j hj => by rw [hR.2.2.1 32 (by decide) (by decide) (by decide), x32 j hj, ya]
  have R32i : R.a 32 id = w.i 20 := by rw [hR.2.2.1 32 (by decide) (by decide) (by decide), x32i, yi 20 (by decide)]
  obtain ⟨W, hW⟩ : ∃ W, W = R.setI 75 x := ⟨_, rfl⟩
  have Wi : ∀ j : Nat, j ≠ 52 → j ≠ 56 → j ≠ 75 → W.i j = w.i j := fun j q1 q2 q3 => by rw [hW]; exact (if_neg q3).trans (Ri j q1 q2)
  have W75 : W.i 75 = x := by rw [hW]; rfl
  have Wa : W.a = R.a := by rw [hW]; rfl
  have kW : KP t s W := by rw [hW]; exact kR.i75 x
  have tbW : TBL R W := by rw [hW]; exact TBL.i75 R x
  rw [← hW]
  clear hW
  have W3 : ∀ k : Nat, k ≠ 32 → k ≠ 50 → k ≠ 51 → k ≠ 62 → W.a k = w.a k := fun k q1 q2 q3 q4 => by rw [Wa]; exact Ra k q1 q2 q3 q4
  have wg : ∀ k i : Nat, k ≠ 32 → k ≠ 50 → k ≠ 51 → k ≠ 62 → gv W k i = gv w k i := fun k i q1 q2 q3 q4 => gv_of (W3 k q1 q2 q3 q4) i
  have cdW : cdI W = cdI w := by unfold cdI; rw [Wi 20 (by decide) (by decide) (by decide)]
  have enW : enI W = enI w := by unfold enI; rw [Wi 24 (by decide) (by decide) (by decide)]
  have trW : trI W = trI w := by unfold trI; rw [Wi 29 (by decide) (by decide) (by decide)]
  have caW : caI W = caI w := by unfold caI; rw [Wi 33 (by decide) (by decide) (by decide)]
  have slW : slI W = slI w := by unfold slI; rw [Wi 42 (by decide) (by decide) (by decide)]
  have gW : goI W = goI w := by unfold goI; rw [Wi 43 (by decide) (by decide) (by decide)]
  have gu : goI w = goI s := by unfold goI; rw [b2]
  have hdW : ∀ (b : Bool) (γ : Nat), hd W b γ = hd w b γ := fun b γ => by
    cases b
    · exact wg 49 γ (by decide) (by decide) (by decide) (by decide)
    · exact wg 48 γ (by decide) (by decide) (by decide) (by decide)
  have isW : ∀ {y : Int} {M : List Nat}, ISCH w y M → ISCH W y M := fun hi => hi.of (fun y _ => ⟨by rw [W3 21 (by decide) (by decide) (by decide) (by decide)], by rw [W3 22 (by decide) (by decide) (by decide) (by decide)]⟩)
  have isb : ∀ {y : Int} {M : List Nat}, ISCH W y M → ISCH w y M := fun hi => hi.of (fun y _ => ⟨by rw [W3 21 (by decide) (by decide) (by decide) (by decide)], by rw [W3 22 (by decide) (by decide) (by decide) (by decide)]⟩)
  have g31 : gv W 31 id = -1 := by rw [wg 31 id (by decide) (by decide) (by decide) (by decide)]; exact g2
  have lat : LAT (ZT id CL) s w W := by
    refine ⟨⟨by omega, by omega, by omega, by rw [Wi 3 (by decide) (by decide) (by decide)]; exact Int.le_refl _, fun k _ _ => ⟨by rw [W3 21 (by decide) (by decide) (by decide) (by decide)], fun _ => ⟨by rw [W3 23 (by decide) (by decide) (by decide) (by decide)], fun _ => by rw [W3 22 (by decide) (by decide) (by decide) (by decide)]⟩⟩, fun k _ _ => ⟨by rw [W3 26 (by decide) (by decide) (by decide) (by decide)], by rw [W3 28 (by decide) (by decide) (by decide) (by decide)], fun _ => by rw [W3 27 (by decide) (by decide) (by decide) (by decide)]⟩, fun k _ _ q => ⟨by rw [W3 30 (by decide) (by decide) (by decide) (by decide)], by rw [W3 31 (by decide) (by decide) (by decide) (by decide)], by rw [Wa]; exact R32 k (fun y => q (Or.inl ⟨rfl, y⟩))⟩, fun k _ _ => ⟨by rw [W3 35 (by decide) (by decide) (by decide) (by decide)], by rw [W3 36 (by decide) (by decide) (by decide) (by decide)], fun _ => by rw [W3 37 (by decide) (by decide) (by decide) (by decide)]⟩⟩, fun k _ _ ho => ?_, by omega, by omega, fun j _ => wg 36 j (by decide) (by decide) (by decide) (by decide), fun j j1 j2 => by omega⟩
    obtain ⟨γ, b, M, y1, y2, y3⟩ := ho
    rw [hdW] at y2
    exact ⟨γ, b, M, by omega, isb y2, y3⟩
  have nsl := a1.2.2.2.2.2.2.2.2.2.2.1
  have ew : (waI w - 1).toNat = (waI s).toNat := by rw [b4]; congr 1; omega
  have peX : peI X = peI w := by unfold peI; rw [xi 59 (by decide), yi 59 (by decide)]
  have waX : waI X = waI s := by unfold waI; rw [xi 56 (by decide), Y56]
  have aX : ∀ k : Nat, k ≠ 32 → X.a k = w.a k := fun k hk => by rw [xa k hk, ya]
  refine TS.try (ps := true) (ek := false) hI (k1 zw) a3 f1 f2 f3 h1 h2 hid g1 ?_ g4 lat (by omega) gu (fun γ _ => ⟨by rw [W3 44 (by decide) (by decide) (by decide) (by decide)], by rw [W3 47 (by decide) (by decide) (by decide) (by decide)]⟩) (fun γ b k _ hs => ?_) kW (by omega) ?_ (fun hr => ⟨fun q => by omega, fun _ => ?_⟩) (fun _ γ b hγ ha => ?_) (FINP.none (by omega) (by omega) (by omega))
  · rw [wg 30 id (by decide) (by decide) (by decide) (by decide)]
    exact g3.of (fun j _ => wg 37 j (by decide) (by decide) (by decide) (by decide))
  · obtain ⟨y1, M, y2, y3⟩ := hs
    exact ⟨y1, M, by rw [hdW]; exact isW y2, y3⟩
  · unfold gv; rw [Wa, R32i]; show cdI w = cdI W; omega
  · rw [W75]
    exact hx'.mpr ⟨rfl, by rw [ya]; exact hr⟩
  · have := ARV.rsv (u := w) hR (by rw [ya]; exact e2) a1.2.2.2.1 (by rw [ew]; exact c1) (by omega) (by omega) (by omega) (fun j _ => by rw [aX 60 (by decide)]) (fun j _ => by rw [aX 61 (by decide)]) (fun j _ => by rw [aX 62 (by decide)]) (fun γ _ q => by rw [aX 50 (by decide)]; exact q) (fun γ _ q => by rw [aX 51 (by decide)]; exact q) (by omega) ha
    exact this.tbs tbW.tbs
