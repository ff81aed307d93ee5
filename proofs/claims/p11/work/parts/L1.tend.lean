/-! reading: try: its end -/
theorem TAB.s32 {X V : RS} (h : TAB X) (hi : V.i = X.i) (ha : ∀ k : Nat, k ≠ 32 → V.a k = X.a k) : TAB V := by
  obtain ⟨⟨a0, b1, b2, b3, b4⟩, a1, a2, a3, a4, a5, a6, a7, a8, a9⟩ := h
  have eg : ∀ (k i : Nat), k ≠ 32 → gv V k i = gv X k i := fun k i e => by unfold gv; rw [ha k e]
  have e1 : cdI V = cdI X := by unfold cdI; rw [hi]
  have e2 : enI V = enI X := by unfold enI; rw [hi]
  have e3 : trI V = trI X := by unfold trI; rw [hi]
  have e4 : caI V = caI X := by unfold caI; rw [hi]
  have e5 : seI V = seI X := by unfold seI; rw [hi]
  have e6 : slI V = slI X := by unfold slI; rw [hi]
  have e7 : goI V = goI X := by unfold goI; rw [hi]
  have e8 : deI V = deI X := by unfold deI; rw [hi]
  have e9 : waI V = waI X := by unfold waI; rw [hi]
  have e10 : peI V = peI X := by unfold peI; rw [hi]
  have eh : ∀ (b : Bool) (γ : Nat), hd V b γ = hd X b γ := fun b γ => eg _ _ (by rcases bk_cases b with e | e <;> rw [e] <;> decide)
  have is : ∀ (y : Int) (L : List Nat), ISCH X y L → ISCH V y L := fun y L hI => hI.of (fun x _ => ⟨by rw [ha 21 (by decide)], by rw [ha 22 (by decide)]⟩)
  refine ⟨⟨fun γ b hγ => ?_, DJ.of a0 b1 (by omega) (fun γ b L _ h1 _ => by rw [eh]; exact is _ _ h1), fun p hp => ?_, fun w w' q1 q2 => ?_, fun p w q1 q2 q3 => ?_⟩, fun j hj => ?_, fun j hj => ?_, fun j hj => ?_, fun x hx => ?_, fun j hj => ?_, fun g hg => ?_, fun k hk => ?_, fun k hk => ?_, ?_⟩
  · obtain ⟨L, l1, l2⟩ := a0 γ b (by omega)
    exact ⟨L, by rw [eh]; exact is _ _ l1, fun x hx => by have := l2 x hx; omega⟩
  · rw [e10] at hp; rw [e3, eg 62 p (by decide)]; exact b2 p hp
  · rw [e9] at q2; rw [eg 57 _ (by decide), eg 57 _ (by decide)]; exact b3 w w' q1 q2
  · rw [e10] at q1; rw [e9] at q2; rw [eg 62 _ (by decide), eg 57 _ (by decide)] at q3; rw [eg 60 _ (by decide), eg 58 _ (by decide)]; exact b4 p w q1 q2 q3
  · rw [e2] at hj ⊢; rw [eg 27 _ (by decide)]; exact a1 j hj
  · rw [e4] at hj ⊢; rw [eg 37 _ (by decide)]; exact a2 j hj
  · rw [e3] at hj; rw [e4, eg 30 _ (by decide)]; exact a3 j hj
  · rw [e5] at hx
    rw [e6, e4, eg 40 _ (by decide), ha 41 (by decide)]
    have := a4 x hx
    refine ⟨this.1, this.2.1, ?_⟩
    rw [← this.2.2]
    constructor
    · rintro ⟨j, j1, j2⟩; exact ⟨j, j1, by rw [← j2, eg 36 _ (by decide)]⟩
    · rintro ⟨j, j1, j2⟩; exact ⟨j, j1, by rw [← j2, eg 36 _ (by decide)]⟩
  · rw [e4] at hj; rw [e6, eg 36 _ (by decide)]; exact a5 j hj
  · rw [e7] at hg; rw [e8, eg 47 _ (by decide)]; exact a6 g hg
  · rw [e10] at hk; rw [eg 60 _ (by decide), ha 61 (by decide)]; exact a7 k hk
  · rw [e9] at hk; rw [e3, e7, eg 57 _ (by decide), eg 58 _ (by decide)]; exact a8 k hk
  · rw [hi]; exact a9
theorem KP.s32 {t : Nat} {s X V : RS} (h : KP t s X) (hi : V.i = X.i) (hb : V.b = X.b) (ha : ∀ k : Nat, k ≠ 32 → V.a k = X.a k) (h32 : ∀ j : Nat, (j : Int) < trI s → V.a 32 j = X.a 32 j) : KP t s V := by
  obtain ⟨⟨a1, a1'⟩, a2, a3, a4, a5, a6, a7, a8, a9, a10, a11⟩ := h
  have eb : ∀ (k : Nat) (m : Int), k ≠ 32 → bel k m s V = bel k m s X := fun k m e => by unfold bel; rw [ha k e]
  have e1 : cdI V = cdI X := by unfold cdI; rw [hi]
  have e2 : enI V = enI X := by unfold enI; rw [hi]
  have e3 : trI V = trI X := by unfold trI; rw [hi]
  have e4 : caI V = caI X := by unfold caI; rw [hi]
  have e5 : seI V = seI X := by unfold seI; rw [hi]
  have e6 : slI V = slI X := by unfold slI; rw [hi]
  have e7 : goI V = goI X := by unfold goI; rw [hi]
  have e9 : waI V = waI X := by unfold waI; rw [hi]
  have e10 : peI V = peI X := by unfold peI; rw [hi]
  have eh : ∀ (b : Bool) (γ : Nat), hd V b γ = hd X b γ := fun b γ => by
    unfold hd gv
    rw [ha _ (by rcases bk_cases b with e | e <;> rw [e] <;> decide)]
  refine ⟨⟨⟨fun j hj => by rw [hi]; exact a1.1 j hj, fun k hk => (ha k (by omega)).trans (a1.2.1 k hk), by rw [hb]; exact a1.2.2⟩, fun z => by rw [hi]; exact a1' z⟩, ?_, ?_, ?_, ?_, ?_, ?_, fun γ b L hγ hI hL => ?_, ?_, ?_, fun k k1 k2 => ?_⟩
  · unfold KC; rw [e1, eb _ _ (by decide), eb _ _ (by decide), eb _ _ (by decide)]; exact a2
  · unfold KE; rw [e2, eb _ _ (by decide), eb _ _ (by decide), eb _ _ (by decide), eb _ _ (by decide)]; exact a3
  · unfold KT; rw [e3, eb 30 _ (by decide), eb 31 _ (by decide)]; exact ⟨a4.1, a4.2.1, a4.2.2.1, fun j hj => (h32 j hj).trans (a4.2.2.2 j hj)⟩
  · unfold KH; unfold gv; rw [e4, eb _ _ (by decide), eb _ _ (by decide), eb _ _ (by decide), eb _ _ (by decide), e6, ha 36 (by decide)]; exact a5
  · unfold KS; rw [e5, e6, eb _ _ (by decide), eb _ _ (by decide)]; exact a6
  · unfold KG; rw [e7, eb _ _ (by decide), eb _ _ (by decide), ha 50 (by decide), ha 51 (by decide), ha 46 (by decide)]; exact a7
  · obtain ⟨L1, c1, c2⟩ := a8 γ b L hγ hI hL
    refine ⟨L1, ?_, by rw [e1]; exact c2⟩
    rw [eh]
    exact c1.of (fun x _ => ⟨by rw [ha 21 (by decide)], by rw [ha 22 (by decide)]⟩)
  · unfold KW; rw [e9, eb _ _ (by decide), eb _ _ (by decide)]; exact a9
  · unfold KQ; rw [e10, eb _ _ (by decide), eb _ _ (by decide), eb _ _ (by decide)]; exact a10
  · rw [eb k _ (by omega)]; exact a11 k k1 k2
/-- endTry: what comes out of it -/
theorem TREND {N : Nat} (hN : 1000 ≤ N) {m : Nat} {s Y : RS} {t id : Nat} {P : RS → Prop} {x1 x2 : Int32} (hI : INV s) (h9 : t < 998) (hx2 : x2 = 0 ∨ x2 = 1) (ibx : ib x1 1000) (nx : x1.toNatClampNeg = t) (lY : LXI Y) (Y15 : Y.i 15 = 0) (tY : TAB Y) (tp : tpI Y = t) (kY : KP t s Y) (Y19 : Y.i 19 = s.i 19) (Y43 : Y.i 43 = s.i 43) (Y52 : Y.i 52 = s.i 52 + 1) (Y56 : Y.i 56 = s.i 56) (Y38 : Y.i 38 = s.i 38) (ra : RATE s Y) (fY : fr s ≤ fr Y) (tkY : tkI s ≤ tkI Y) (Y66 : (Y.a 66 t).toInt = (id : Int)) (hid : (id : Int) = trI s) (idY : (id : Int) < trI Y) (hC : ∀ (u : RS), PS t s u → fr Y ≤ fr u → ok (f_X12_parse_10 N m u) P) (hT : ∀ (X R : RS) (x : Int32), X.i 20 = Y.i 20 → (∀ j : Nat, j ≠ 52 → X.i j = Y.i j) → X.b = Y.b → (∀ k : Nat, k ≠ 32 → X.a k = Y.a k) → (∀ j : Nat, j ≠ id → X.a 32 j = Y.a 32 j) → X.a 32 id = Y.i 20 → TAB X → KP t s X → RSV (Y.a 66 t) x2 0 X R → TAB R → KP t s R → (x = 0 ∨ x = 1) → (x = 1 ↔ x2 = 1 ∧ Y.a 68 t = 1) → ¬ 0 ≤ Y.i 18 → TS s (R.setI 75 x)) : ok ((f_X12_endTry N Y x1 x2).bind fun p => f_X12_parse_10 N m p) P := by
  have ns := hI.2.2.2.2
  have hop := hI.op
  have fs := hI.1.f0
  have fYf := lY.f0
  have id2 : id < 200 := by have := ns.2.2.2.1; omega
  unfold f_X12_endTry
  rw [if_pos ibx, nx, if_pos (show ib (Y.a 66 t) 200 from ⟨by omega, by omega⟩), k_nat Y66]
  obtain ⟨Z, hZ⟩ : ∃ Z, Z = RS.setI Y 52 ((Y.i 52) - 1) := ⟨_, rfl⟩
  have zi : ∀ j : Nat, j ≠ 52 → Z.i j = Y.i j := fun j hj => by rw [hZ]; exact if_neg hj
  have Z52 : Z.i 52 = s.i 52 := by
    have e : Z.i 52 = Y.i 52 - 1 := by rw [hZ]; rfl
    rw [e, Y52, Int32.add_sub_cancel]
  have za : Z.a = Y.a := by rw [hZ]; rfl
  have zb : Z.b = Y.b := by rw [hZ]; rfl
  have tbZ : TBL Y Z := by rw [hZ]; exact TBL.i52 Y _
  have kZ : KP t s Z := by rw [hZ]; exact kY.i52 _
  rw [← hZ]
  clear hZ
  have deZ : deI Z = deI s := by unfold deI; rw [Z52]
  have goY : goI Y = goI s := by unfold goI; rw [Y43]
  have tZ : TAB Z := tY.tbl tbZ (fun γ hγ => by
    have q := (hI.2.2.2.1.2.2.2.2.2.2.1 γ (by omega)).2
    have kg := kY.2.2.2.2.2.2.1
    have e : gv Y 47 γ = gv s 47 γ := by unfold gv; rw [kg.2.2.1 γ (by omega)]
    omega) (by rw [zi 75 (by decide)]; exact tY.2.2.2.2.2.2.2.2.2)
  obtain ⟨X, hX⟩ : ∃ X, X = RS.setA Z 32 id (Y.i 20) := ⟨_, rfl⟩
  have xi : X.i = Z.i := by rw [hX]; rfl
  have xb : X.b = Z.b := by rw [hX]; rfl
  have xa : ∀ k : Nat, k ≠ 32 → X.a k = Z.a k := fun k hk => by rw [hX]; exact setA_nk hk
  have x32 : ∀ j : Nat, j ≠ id → X.a 32 j = Z.a 32 j := fun j hj => by rw [hX]; exact setA_ne hj
  have x32i : X.a 32 id = Y.i 20 := by rw [hX]; exact setA_at
  rw [← hX]
  clear hX
  have tX : TAB X := tZ.s32 xi xa
  have kX : KP t s X := kZ.s32 xi xb xa (fun j hj => x32 j (by omega))
  have xiY : ∀ j : Nat, j ≠ 52 → X.i j = Y.i j := fun j hj => by rw [xi]; exact zi j hj
  have peX : peI X = peI Y := by unfold peI; rw [xiY 59 (by decide)]
  have waX : waI X = waI s := by unfold waI; rw [xiY 56 (by decide), Y56]
  have ra' := ra
  unfold RATE at ra'
  have kpe := kY.2.2.2.2.2.2.2.2.2.1.1
  obtain ⟨R, eR, hR⟩ := p_rs hN (σ := X) (x1 := Y.a 66 t) hx2 ⟨by have := ns.2.2.2.2.2.2.2.2.2.2.1; omega, by have := ns.2.2.2.2.2.2.2.2.2.2.1; omega⟩ ⟨by have := ns.2.2.2.2.2.2.2.2.2.1; omega, by have := ns.2.2.2.2.2.2.2.2.2.1; omega⟩ (fun p hp => by have := tX.2.2.2.2.2.2.2.1 p hp; omega)
  rw [eR]
  clear eR
  have trX : trI X = trI Y := by unfold trI; rw [xiY 29 (by decide)]
  have tR : TAB R := tX.rsv hR (by omega)
  have kR : KP t s R := kX.rsv hR (fun p hp q => by
    have h1 := hI.2.2.2.1.1.2.2.1 p hp
    unfold gv at h1
    rw [q, Y66] at h1
    omega)
  have ri : ∀ j : Nat, j ≠ 52 → R.i j = Y.i j := fun j hj => by rw [hR.1]; exact xiY j hj
  have R52 : R.i 52 = s.i 52 := by rw [hR.1, xi]; exact Z52
  have R68 : R.a 68 t = Y.a 68 t := by rw [hR.2.2.1 68 (by decide) (by decide) (by decide), xa 68 (by decide), za]
  have lR : LXI R := lY.of (ri 2 (by decide)) (ri 10 (by decide)) (ri 11 (by decide)) (ri 12 (by decide)) (ri 14 (by decide)) (by rw [hR.2.1, xb, zb])
  have sm : SAME s R := ⟨(ri 19 (by decide)).trans Y19, (ri 43 (by decide)).trans Y43, R52, (ri 56 (by decide)).trans Y56⟩
  have R38 : R.i 38 = s.i 38 := (ri 38 (by decide)).trans Y38
  have sn : SNW s R := SNW.eq R38 kR.2.2.2.2.2.1.2.1
  have fR : fr R = fr Y := by unfold fr; rw [ri 11 (by decide)]
  have tkR : tkI R = tkI Y := by unfold tkI; rw [ri 17 (by decide)]
  have rt : RATE s R := by
    have h1 : cdI R = cdI Y := by unfold cdI; rw [ri 20 (by decide)]
    have h2 : enI R = enI Y := by unfold enI; rw [ri 24 (by decide)]
    have h3 : trI R = trI Y := by unfold trI; rw [ri 29 (by decide)]
    have h4 : caI R = caI Y := by unfold caI; rw [ri 33 (by decide)]
    have h5 : slI R = slI Y := by unfold slI; rw [ri 42 (by decide)]
    have h6 : peI R = peI Y := by unfold peI; rw [ri 59 (by decide)]
    unfold RATE at ra ⊢
    rw [h1, h2, h3, h4, h5, h6, fR, tkR]
    exact ra
  have iR : INV R := hI.mkS kR lR ((ri 15 (by decide)).trans Y15) tR sm sn rt (by omega) (by omega)
  have fin : ∀ x : Int32, (x = 0 ∨ x = 1) → (x = 1 ↔ x2 = 1 ∧ Y.a 68 t = 1) → ok (((f_X12_over N R x).bind fun p => some p).bind fun p => f_X12_parse_10 N m p) P := fun x hx hx' => IF3 (q := R) h9 hx (fun u hu hf => hC u hu (by omega)) iR (by unfold tpI; rw [ri 63 (by decide)]; exact tp) kR sm sn rt (by omega) (by omega) (fun z => hT X R x (xiY 20 (by decide)) xiY (xb.trans zb) (fun k hk => by rw [xa k hk, za]) (fun j hj => by rw [x32 j hj, za]) x32i tX kX hR tR kR hx hx' (fun q => z (by rw [ri 18 (by decide)]; exact q)))
  show ok ((if x2 = 0 then (f_X12_over N R 0).bind fun p6 => some p6 else (if (R.a 68 t) = 1 then (f_X12_over N R 1).bind fun p11 => some p11 else (f_X12_over N R 0).bind fun p9 => some p9) : Option RS).bind fun p => f_X12_parse_10 N m p) P
  by_cases c : x2 = 0
  · rw [if_pos c]
    exact fin 0 (Or.inl rfl) ⟨fun q => absurd q (by decide), fun q => by rw [c] at q; exact absurd q.1 (by decide)⟩
  rw [if_neg c]
  have x21 : x2 = 1 := hx2.resolve_left c
  by_cases c8 : R.a 68 t = 1
  · rw [if_pos c8]
    exact fin 1 (Or.inr rfl) ⟨fun _ => ⟨x21, R68.symm.trans c8⟩, fun _ => rfl⟩
  · rw [if_neg c8]
    exact fin 0 (Or.inl rfl) ⟨fun q => absurd q (by decide), fun q => absurd (R68.trans q.2) c8⟩
