/-! reading: try: a catch's head, run -/
def RATN (s u : RS) : Prop := cdI u - cdI s ≤ 3 * (fr u - fr s) ∧ 2 * (enI u - enI s) ≤ fr u - fr s ∧ 6 * (trI u - trI s) ≤ fr u - fr s + 2 ∧ 3 * (caI u - caI s) ≤ fr u - fr s ∧ 2 * (slI u - slI s) ≤ fr u - fr s ∧ 3 * (peI u - peI s) ≤ fr u - fr s ∧ tkI u - tkI s ≤ fr u - fr s
/-- a try's frame behind its body -/
def TI (t : Nat) (s : RS) (id : Nat) (CL : List Nat) (e : Int) (w : RS) : Prop := (INVW w ∧ tpI w = t ∧ KP t s w ∧ PRL w) ∧ (w.i 19 = s.i 19 ∧ w.i 43 = s.i 43 ∧ w.i 52 = s.i 52 + 1 ∧ waI w = waI s + 1 ∧ w.i 38 = s.i 38) ∧ (gv w 57 (waI s).toNat = id ∧ gv w 58 (waI s).toNat = goI s) ∧ (RATN s w ∧ fr s + 4 ≤ fr w ∧ tkI s + 1 ≤ tkI w) ∧ (w.a 64 t = 15 ∧ (w.a 66 t).toInt = (id : Int) ∧ FC w t CL ∧ (w.a 67 t = 1 ∨ CL ≠ [] → 6 * (trI w - trI s) ≤ fr w - fr s)) ∧ (w.a 21 (cdI s).toNat = 1 ∧ w.a 21 (cdI s + 1).toNat = 31 ∧ (w.a 22 (cdI s + 1).toNat).toInt = (id : Int)) ∧ (trI s + 1 ≤ trI w ∧ gv w 31 id = -1 ∧ CACH w (gv w 30 id) CL ∧ ∀ j ∈ CL, caI s ≤ (j : Int) ∧ (j : Int) < caI w ∧ e ≤ gv w 35 j) ∧ (cdI s + 2 ≤ e ∧ e ≤ cdI w) ∧ (¬ 0 ≤ w.i 18 → TRX CL id (cdI s + 2) e (w.a 68 t = 1) s w)
theorem F256 {N : Nat} {m : Nat} {s σ : RS} {P : RS → Prop} {x2 : Int32} (hF : ∀ u, FS' s u → P u) (kσ : K1 s σ) (hl : LXI σ) (r75 : σ.i 75 = 0 ∨ σ.i 75 = 1) (h15 : ¬ σ.i 15 = 0) (m1 : 1 ≤ m) : ok ((f_X12_catching_256 N σ x2).bind fun p => f_X12_parse_10 N m p) P := by
  have go : ∀ y : Int32, ok (((f_X12_can N σ y).bind fun p25 => (if p25.1 = 0 then some p25.2 else f_X12_catching_277 N p25.2 x2)).bind fun p => f_X12_parse_10 N m p) P := fun y => by
    obtain ⟨G, eG, y1, y2, hG⟩ := p_cn (N := N) hl y
    rw [eG]
    show ok ((if G.1 = 0 then some G.2 else f_X12_catching_277 N G.2 x2 : Option RS).bind fun p => f_X12_parse_10 N m p) P
    rcases hG with ⟨y3, y4⟩ | ⟨y3, y4, y5, y6⟩
    · rw [if_pos y3]; exact lp_f (u := G.2) y4 (hF _ (FS'.of kσ y1 y4 r75)) m1
    · exact absurd y5 h15
  unfold f_X12_catching_256
  by_cases c : σ.i 10 = 2
  · rw [if_pos c]; exact go 1
  · rw [if_neg c]; exact go 0
theorem CATH {N : Nat} (hN : 1000 ≤ N) {m : Nat} {s w : RS} {t id : Nat} {CL : List Nat} {e : Int} {P : RS → Prop} {x1 : Int32} (hI : INV s) (h9 : t < 997) (hF : ∀ u, FS' s u → P u) (hid : (id : Int) = trI s) (hw : TI t s id CL e w) (tok : w.i 10 = 425) (ibx : ib x1 1000) (nx : x1.toNatClampNeg = t) (m1 : 1 ≤ m) (hC : ∀ (U : RS) (NL : List Nat), CATR id CL NL w U → SEN w U → NL ≠ [] → INVW U → KP t s U → PRL U → tpI U = t → U.i 19 = w.i 19 → U.i 52 = w.i 52 → U.i 75 = w.i 75 → (0 ≤ w.i 18 → 0 ≤ U.i 18) → fr w + 6 ≤ fr U → tkI w + 1 ≤ tkI U → RATN s U → FC U t (CL ++ NL) → CACH U (gv U 30 id) (CL ++ NL) → U.a 71 t = w.i 38 → (∀ k : Nat, 64 ≤ k → k ≤ 73 → k ≠ 71 → k ≠ 72 → U.a k t = w.a k t) → ok (f_X12_parse_10 N m (TH U t 3 3)) P) : ok ((f_X12_catching N (RS.setA w 71 t (w.i 38)) x1).bind fun p => f_X12_parse_10 N m p) P := by
  obtain ⟨⟨a1, a2, a3, a4⟩, ⟨b1, b2, b3, b4, b5⟩, ⟨c1, c2⟩, ⟨d1, d2, d3⟩, ⟨e1, e2, e3, e4⟩, ⟨f1, f2, f3⟩, ⟨g1, g2, g3, g4⟩, ⟨h1, h2⟩, k1⟩ := hw
  have fw := a1.1.f0
  have nw := a1.2.2.2.2
  have ns := hI.2.2.2.2
  have hop := hI.op
  have fs := hI.1.f0
  have id2 : id < 200 := by have := ns.2.2.2.1; omega
  obtain ⟨V, hV⟩ : ∃ V, V = RS.setA w 71 t (w.i 38) := ⟨_, rfl⟩
  have iV : V.i = w.i := by rw [hV]; rfl
  have bV : V.b = w.b := by rw [hV]; rfl
  have aV : ∀ k : Nat, k ≠ 71 → V.a k = w.a k := fun k hk => by rw [hV]; exact setA_nk hk
  have V71 : V.a 71 t = w.i 38 := by rw [hV]; exact setA_at
  have V71n : ∀ j : Nat, j ≠ t → V.a 71 j = w.a 71 j := fun j hj => by rw [hV]; exact setA_ne hj
  have lV : LXI V := by rw [hV]; exact LXI.sA a1.1 71 t (w.i 38)
  rw [← hV]
  clear hV
  have fV : fr V = fr w := by unfold fr; rw [iV]
  have tV : tkI V = tkI w := by unfold tkI; rw [iV]
  unfold f_X12_catching
  obtain ⟨R, eR, l1, l2, l3, l4⟩ := p_nx hN lV
  rw [eR]
  clear eR
  obtain ⟨R15, rc⟩ := l4 (by rw [iV]; exact a1.2.2.1)
  obtain ⟨n1, n2, n3⟩ := rc (by rw [iV, tok]; decide)
  have n3 := n3 (Or.inl (by rw [iV, tok]; decide))
  have tkw := nw.2.2.2.2.2.2.2.2.2.2.2
  have tR : tkI R = tkI V + 1 := tk_add n1 ⟨by omega, by omega⟩
  have fR := l1.2.2.2.1.f0
  show ok (((f_X12_open N R 40).bind fun p3 => f_X12_catching_18 N N p3.2 x1 (V.i 33) 1).bind fun p => f_X12_parse_10 N m p) P
  obtain ⟨q, eq, o1, o2, o3⟩ := p_op hN l1.2.2.2.1 40 (by decide)
  rw [eq]
  clear eq
  show ok ((f_X12_catching_18 N N q.2 x1 (V.i 33) 1).bind fun p => f_X12_parse_10 N m p) P
  obtain ⟨u, hu⟩ : ∃ u, u = q.2 := ⟨_, rfl⟩
  rw [← hu] at o1 o2 o3 ⊢
  clear hu
  have lu : LX V u := l1.tr o1
  have ua : ∀ k : Nat, k ≠ 71 → u.a k = w.a k := fun k hk => by rw [lu.1]; exact aV k hk
  have ui : ∀ j : Nat, j < 10 ∨ 18 ≤ j → j ≠ 19 → u.i j = w.i j := fun j p q => (lu.2.2.1 j p q).trans (by rw [iV])
  have cau : caI u = caI w := by unfold caI; rw [ui 33 (by omega) (by omega)]
  have gu : ∀ k j : Nat, k ≠ 71 → gv u k j = gv w k j := fun k j hk => gv_of (ua k hk) j
  have hCLu : ∀ j ∈ CL, (j : Int) < caI u := fun j hj => by have := (g4 j hj).2.1; omega
  have fuR := o1.2.2.2.2.2
  have ct0 : CTL t id CL [] u u := by
    refine ⟨⟨lu.2.2.2.1, Int.le_refl _, rfl⟩, fun _ _ _ _ => rfl, fun _ _ _ _ _ => rfl, fun _ _ => rfl, fun _ _ => rfl, fun _ _ => rfl, fun _ _ _ => rfl, ⟨Int.le_refl _, fun j => ⟨fun q => absurd q List.not_mem_nil, fun q => by omega⟩⟩, ?_, ?_⟩
    · rw [List.append_nil, gu 30 id (by decide)]
      exact g3.of (fun j _ => gu 37 j (by decide))
    · rw [List.append_nil]
      unfold FC at e3 ⊢
      rw [ua 72 (by decide)]; exact e3
  have gd0 : u.i 15 = 0 → CTG u u ∧ u.i 19 = w.i 19 + 1 ∧ tkI u = tkI w + 2 ∧ fr w + 3 ≤ fr u := fun q => by
    obtain ⟨-, ⟨m1', m2', -⟩, m4, -⟩ := o3 q
    have tu : tkI u = tkI R + 1 := tk_add m1' ⟨by omega, by omega⟩
    exact ⟨⟨q, rfl, Int.le_refl _, by omega, by omega, by omega, by omega⟩, m4.trans (by rw [l2, iV]), by omega, by omega⟩
  have hbu : RB u := RB.of (ui 2 (by omega) (by omega)) (ui 3 (by omega) (by omega)) (ua 4 (by decide)) (ua 6 (by decide)) (ua 7 (by decide)) a1.2.1
  have fu9 := lu.2.2.2.1.f0
  have nca := nw.2.2.2.2.1
  have kw := a3.1.1
  have ku : K1 s u := ⟨fun j hj => (ui j (by omega) (by omega)).trans (kw.1 j hj), fun k hk => (ua k (by omega)).trans (kw.2.1 k hk), by rw [lu.2.1, bV]; exact kw.2.2⟩
  by_cases u15 : u.i 15 = 0
  case neg =>
    rw [p_c18f (by omega) u15]
    exact F256 hF ku lu.2.2.2.1 (by rw [ui 75 (by omega) (by omega)]; exact a1.r) u15 m1
  obtain ⟨gd1, gd2, gd3, gd4⟩ := gd0 u15
  obtain ⟨σ, NL, eσ, cσ, hσ⟩ := p_c18 hN (x2 := V.i 33) hbu ibx nx (by rw [ua 66 (by decide)]; exact e2) id2 (by omega) (by omega) hCLu N u 1 [] ct0 (Or.inr rfl) (fun q => ⟨gd1, fun _ => by omega⟩) (fun q => absurd q (by decide)) (by omega)
  rw [eσ]
  clear eσ
  have σi : ∀ j : Nat, j < 10 ∨ 18 ≤ j → j ≠ 19 → j ≠ 33 → σ.i j = w.i j := fun j p q r => (cσ.2.1 j p q r).trans (ui j p q)
  have σa : ∀ k : Nat, k ≠ 30 → k ≠ 34 → k ≠ 37 → k ≠ 72 → k ≠ 71 → σ.a k = w.a k := fun k p1 p2 p3 p4 p5 => (cσ.2.2.1 k p1 p2 p3 p4).trans (ua k p5)
  have σb : σ.b = w.b := cσ.1.2.2.trans (lu.2.1.trans bV)
  have kσ : K1 s σ := ⟨fun j hj => (σi j (by omega) (by omega) (by omega)).trans (kw.1 j hj), fun k hk => (σa k (by omega) (by omega) (by omega) (by omega) (by omega)).trans (kw.2.1 k hk), by rw [σb]; exact kw.2.2⟩
  have r75 : σ.i 75 = 0 ∨ σ.i 75 = 1 := by rw [σi 75 (by omega) (by omega) (by omega)]; exact a1.r
  by_cases y5 : σ.i 15 = 0
  case neg => exact F256 hF kσ cσ.1.1 r75 y5 m1
  have flt : ∀ S : RS, LX σ S → ¬ S.i 15 = 0 → ok (f_X12_parse_10 N m S) P := fun S x h => lp_f h (hF _ (FS'.of kσ x h r75)) m1
  unfold f_X12_catching_256
  by_cases c10 : σ.i 10 = 2
  case neg =>
    rw [if_neg c10]
    obtain ⟨G, eG, y1, y2⟩ := can0 (N := N) cσ.1.1 y5
    rw [eG]
    exact flt G y1 y2
  rw [if_pos c10, can1 y5 (by rw [c10]; decide)]
  show ok ((if (1 : Int32) = 0 then some σ else f_X12_catching_277 N σ (V.i 33) : Option RS).bind fun p => f_X12_parse_10 N m p) P
  rw [if_neg (by decide)]
  obtain ⟨⟨g15, g19, gt1, gt2, gc, gt3, gt4⟩, hne⟩ := hσ.resolve_left (fun q => q y5)
  have seσ : seI σ = seI w := by unfold seI; rw [σi 38 (by omega) (by omega) (by omega)]
  have slσ : slI σ = slI w := by unfold slI; rw [σi 42 (by omega) (by omega) (by omega)]
  have fσ := cσ.1.1.f0
  have fuσ := cσ.1.2.1
  have nse := nw.2.2.2.2.2.1
  have nsl := nw.2.2.2.2.2.2.1
  have hcaσ := cσ.2.2.2.2.2.2.2.1.1
  have hNL := cσ.2.2.2.2.2.2.2.1.2
  have ca1 : caI u + 1 ≤ caI σ := by
    obtain ⟨j, hj⟩ : ∃ j, j ∈ NL := by
      cases NL with
      | nil => exact absurd rfl hne
      | cons a _ => exact ⟨a, List.mem_cons_self ..⟩
    have := (hNL j).mp hj
    omega
  unfold f_X12_catching_277
  obtain ⟨⟨p1, p2⟩, ep, e2', e3'⟩ := p_sa hN σ.l (σ := σ) (by omega) (by omega)
  have e2' : p2 = σ := e2'
  subst e2'
  rw [ep]
  clear ep
  show ok ((if p1 < 0 then (f_X12_see N p2 p2.l 1).bind fun p13 => (f_X12_next N p13.2).bind fun p15 => (f_X12_shut N p15 41).bind fun p17 => f_X12_catching_323 N N p17.2 p13.1 (V.i 33) else (f_X12_fail N p2 4 (p2.i 11)).bind fun p23 => some p23 : Option RS).bind fun p => f_X12_parse_10 N m p) P
  by_cases cn : p1 < 0
  case neg =>
    rw [if_neg cn]
    obtain ⟨S, eS, y1, y2, y3⟩ := p_fl (N := N) cσ.1.1 4 (p2.i 11) (by decide)
    rw [eS]
    exact flt S y1 y2
  rw [if_pos cn, p_se (N := N) (u := p2) p2.l (Or.inr rfl) (by omega) (by omega)]
  obtain ⟨Y, hY⟩ : ∃ Y, Y = SE p2 p2.l 1 := ⟨_, rfl⟩
  have iY : ∀ j : Nat, j ≠ 38 → j ≠ 42 → Y.i j = p2.i j := fun j p q => by rw [hY]; exact SE.eI p q
  have aY : ∀ k : Nat, k ≠ 40 → k ≠ 41 → Y.a k = p2.a k := fun k p q => by rw [hY]; exact SE.eA p q
  have loY : ∀ k j : Nat, j ≠ (seI w).toNat → Y.a k j = p2.a k j := fun k j hj => by
    have e : (p2.i 38).toNatClampNeg = (seI w).toNat := by show (seI p2).toNat = _; rw [seσ]
    rw [hY]; exact SE.lo (by rw [e]; exact hj)
  have Y40 : Y.a 40 (seI w).toNat = p2.i 42 := by
    have e : (p2.i 38).toNatClampNeg = (seI w).toNat := by show (seI p2).toNat = _; rw [seσ]
    rw [hY, ← e]; exact SE.a40
  have Y41 : Y.a 41 (seI w).toNat = 1 := by
    have e : (p2.i 38).toNatClampNeg = (seI w).toNat := by show (seI p2).toNat = _; rw [seσ]
    rw [hY, ← e]; exact SE.a41
  have seY : seI Y = seI w + 1 := by rw [hY, SE.eSE (by omega) (by omega), seσ]
  have slY : slI Y = slI w + 1 := by rw [hY, SE.eSL (by omega) (by omega), slσ]
  have bY : Y.b 9 = p2.b 9 := by rw [hY]; rfl
  show ok (((f_X12_next N (SE p2 p2.l 1)).bind fun p15 => (f_X12_shut N p15 41).bind fun p17 => f_X12_catching_323 N N p17.2 (p2.i 42) (V.i 33)).bind fun p => f_X12_parse_10 N m p) P
  rw [← hY]
  clear hY
  have lY : LXI Y := cσ.1.1.of (iY 2 (by decide) (by decide)) (iY 10 (by decide) (by decide)) (iY 11 (by decide) (by decide)) (iY 12 (by decide) (by decide)) (iY 14 (by decide) (by decide)) bY
  obtain ⟨Y1, eY1, r1, r2, r3, r4⟩ := p_nx hN lY
  rw [eY1]
  clear eY1
  obtain ⟨Y15, yc⟩ := r4 ((iY 15 (by decide) (by decide)).trans y5)
  obtain ⟨v1, v2, -⟩ := yc (by rw [iY 10 (by decide) (by decide), c10]; decide)
  show ok (((f_X12_shut N Y1 41).bind fun p17 => f_X12_catching_323 N N p17.2 (p2.i 42) (V.i 33)).bind fun p => f_X12_parse_10 N m p) P
  obtain ⟨S0, eS0, t1, t2, t3⟩ := p_sh hN r1.2.2.2.1 41 (by decide)
  rw [eS0]
  clear eS0
  show ok ((f_X12_catching_323 N N S0.2 (p2.i 42) (V.i 33)).bind fun p => f_X12_parse_10 N m p) P
  obtain ⟨S, hS⟩ : ∃ S, S = S0.2 := ⟨_, rfl⟩
  rw [← hS] at t1 t2 t3 ⊢
  clear hS
  have lYS : LX Y S := r1.tr t1
  have fY : fr Y = fr p2 := by unfold fr; rw [iY 11 (by decide) (by decide)]
  have tY : tkI Y = tkI p2 := by unfold tkI; rw [iY 17 (by decide) (by decide)]
  have Si : ∀ j : Nat, j < 10 ∨ 18 ≤ j → j ≠ 19 → j ≠ 33 → j ≠ 38 → j ≠ 42 → S.i j = w.i j := fun j p q r r2 r3 => (lYS.2.2.1 j p q).trans ((iY j r2 r3).trans (σi j p q r))
  have caS : caI S = caI p2 := by unfold caI; rw [lYS.2.2.1 33 (by omega) (by omega), iY 33 (by decide) (by decide)]
  have cdS : cdI S = cdI w := by unfold cdI; rw [Si 20 (by omega) (by omega) (by omega) (by omega) (by omega)]
  have tpS : tpI S = t := by unfold tpI; rw [Si 63 (by omega) (by omega) (by omega) (by omega) (by omega)]; exact a2
  have V33 : (V.i 33).toInt = caI w := by rw [iV]; rfl
  have caP : caI p2 ≤ 400 := by omega
  obtain ⟨U, eU, u1, u2, u3, u4, u5⟩ := p_323 (N := N) (x4 := p2.i 42) (show t < 998 by omega) N S (V.i 33) (by omega) (by omega) (by omega) (by omega) tpS
  rw [eU]
  clear eU
  show ok (f_X12_parse_10 N m (TH U t 3 3)) P
  have Ui : ∀ j : Nat, j < 10 ∨ 18 ≤ j → j ≠ 19 → j ≠ 33 → j ≠ 38 → j ≠ 42 → U.i j = w.i j := fun j p q r r2 r3 => by rw [u1]; exact Si j p q r r2 r3
  have Ua : ∀ k : Nat, k ≠ 30 → ¬ (34 ≤ k ∧ k ≤ 37) → k ≠ 40 → k ≠ 41 → k ≠ 71 → k ≠ 72 → U.a k = w.a k := fun k q1 q2 q3 q4 q5 q6 => (u3 k (by omega) (by omega)).trans ((by rw [lYS.1] : S.a k = Y.a k).trans ((aY k q3 q4).trans (σa k q1 (by omega) (by omega) q6 q5)))
  have Ub : U.b 9 = w.b 9 := by rw [u2, lYS.2.1, bY, σb]
  by_cases S15 : S.i 15 = 0
  case neg =>
    have U15 : ¬ U.i 15 = 0 := by rw [u1]; exact S15
    refine lp_f (u := TH U t 3 3) U15 (hF _ (FS'.th ⟨U15, ⟨fun j hj => (Ui j (by omega) (by omega) (by omega) (by omega) (by omega)).trans (kw.1 j hj), fun k hk => (Ua k (by omega) (by omega) (by omega) (by omega) (by omega) (by omega)).trans (kw.2.1 k hk), Ub.trans kw.2.2⟩, ?_⟩)) m1
    rw [Ui 75 (by omega) (by omega) (by omega) (by omega) (by omega)]; exact a1.r
  obtain ⟨-, ⟨w1, w2, -⟩, w4⟩ := t3 S15
  have f1 := r1.2.2.2.1.f0
  have tY1 : tkI Y1 = tkI Y + 1 := tk_add v1 ⟨by omega, by omega⟩
  have tS : tkI S = tkI Y1 + 1 := tk_add w1 ⟨by omega, by omega⟩
  have S19 : S.i 19 = w.i 19 := by rw [w4, r2, iY 19 (by decide) (by decide), g19, gd2, Int32.add_sub_cancel]
  have fU : fr U = fr S := by unfold fr; rw [u1]
  have tU : tkI U = tkI S := by unfold tkI; rw [u1]
  have caU : caI U = caI p2 := by unfold caI at *; rw [u1]; exact caS
  have seU : seI U = seI w + 1 := by rw [← seY]; unfold seI; rw [u1, lYS.2.2.1 38 (by omega) (by omega)]
  have slU : slI U = slI w + 1 := by rw [← slY]; unfold slI; rw [u1, lYS.2.2.1 42 (by omega) (by omega)]
  have fSf := lYS.2.2.2.1.f0
  have Uσ : ∀ k : Nat, k ≠ 35 → k ≠ 36 → k ≠ 40 → k ≠ 41 → U.a k = p2.a k := fun k q1 q2 q3 q4 => (u3 k q1 q2).trans ((by rw [lYS.1] : S.a k = Y.a k).trans (aY k q3 q4))
  have cat : CATR id CL NL w U := by
    refine ⟨fun j p q r r2 r3 => Ui j (by omega) (by omega) q r r2, fun k q1 q2 q3 q4 q5 => Ua k q2 q3 q4 q5 (by omega) (by omega), fun j hj => ?_, fun k j q1 q2 hj => ?_, fun j hj hn => ?_, by omega, fun j hj => ?_, fun j j1 j2 => ?_, slU⟩
    · rw [Uσ 30 (by decide) (by decide) (by decide) (by decide), cσ.2.2.2.1 j hj, ua 30 (by decide)]
    · by_cases c34 : k = 34
      · subst c34
        rw [Uσ 34 (by decide) (by decide) (by decide) (by decide), cσ.2.2.2.2.2.1 j (by omega), ua 34 (by decide)]
      · have e35 : S.a k = w.a k := by rw [lYS.1, aY k (by omega) (by omega), σa k (by omega) c34 (by omega) (by omega) (by omega)]
        have := u4 j (Or.inl (by omega))
        by_cases c35 : k = 35
        · subst c35; rw [this.1, e35]
        · have c36 : k = 36 := by omega
          subst c36; rw [this.2, e35]
    · rw [Uσ 37 (by decide) (by decide) (by decide) (by decide), cσ.2.2.2.2.2.2.1 j (by omega) hn, ua 37 (by decide)]
    · have := (hNL j).mp hj
      omega
    · obtain ⟨z1, z2⟩ := u5 j (by omega) (by omega)
      refine ⟨(hNL j).mpr ⟨by omega, by omega⟩, ?_, ?_⟩
      · unfold gv; rw [z1]; exact cdS
      · unfold gv; rw [z2]; exact slσ
  have sen : SEN w U := by
    refine ⟨seU, fun j hj => ⟨?_, ?_⟩, ?_, ?_⟩
    · rw [u3 40 (by decide) (by decide), lYS.1, loY 40 j hj, σa 40 (by decide) (by decide) (by decide) (by decide) (by decide)]
    · rw [u3 41 (by decide) (by decide), lYS.1, loY 41 j hj, σa 41 (by decide) (by decide) (by decide) (by decide) (by decide)]
    · unfold gv; rw [u3 40 (by decide) (by decide), lYS.1, Y40]; exact slσ
    · rw [u3 41 (by decide) (by decide), lYS.1]; exact Y41
  have chU : CACH U (gv U 30 id) (CL ++ NL) := by
    have e : gv U 30 id = gv p2 30 id := gv_of (Uσ 30 (by decide) (by decide) (by decide) (by decide)) id
    rw [e]
    exact cσ.2.2.2.2.2.2.2.2.1.of (fun j _ => gv_of (Uσ 37 (by decide) (by decide) (by decide) (by decide)) j)
  have fcU : FC U t (CL ++ NL) := by
    have := cσ.2.2.2.2.2.2.2.2.2
    unfold FC at this ⊢
    rw [Uσ 72 (by decide) (by decide) (by decide) (by decide)]; exact this
  have U52 : U.i 52 = w.i 52 := Ui 52 (by omega) (by omega) (by omega) (by omega) (by omega)
  have U75 : U.i 75 = w.i 75 := Ui 75 (by omega) (by omega) (by omega) (by omega) (by omega)
  have locU : ∀ (k j : Nat), 64 ≤ k → k ≤ 73 → k ≠ 71 → k ≠ 72 → U.a k j = w.a k j := fun k j q1 q2 q3 q4 => by rw [Ua k (by omega) (by omega) (by omega) (by omega) q3 q4]
  have U71 : ∀ j : Nat, U.a 71 j = V.a 71 j := fun j => by rw [Uσ 71 (by decide) (by decide) (by decide) (by decide), cσ.2.2.1 71 (by decide) (by decide) (by decide) (by decide), lu.1]
  have belU : ∀ k : Nat, 64 ≤ k → k ≤ 73 → bel k t w U := fun k q1 q2 j hj => by
    by_cases q3 : k = 71
    · subst q3; rw [U71, V71n j (by omega)]
    by_cases q4 : k = 72
    · subst q4; rw [Uσ 72 (by decide) (by decide) (by decide) (by decide), cσ.2.2.2.2.1 j (by omega), ua 72 (by decide)]
    · exact locU k j q1 q2 q3 q4
  have tabU : TAB U := a1.2.2.2.1.cat cat sen chU hne (fun j hj => (g4 j hj).2.1) nse.1 (by omega) nca.1 U75 U52
  have kU : KP t s U := a3.cat cat sen (by omega) (fun j hj => (g4 j hj).1) nse.1 (fun j hj => Ui j (by omega) (by omega) (by omega) (by omega) (by omega)) (fun z => by rw [Ui 18 (by omega) (by omega) (by omega) (by omega) (by omega)]; exact z) (fun k hk => Ua k (by omega) (by omega) (by omega) (by omega) (by omega) (by omega)) Ub belU
  have q2 : enI U = enI w := by unfold enI; rw [Ui 24 (by omega) (by omega) (by omega) (by omega) (by omega)]
  have q3 : trI U = trI w := by unfold trI; rw [Ui 29 (by omega) (by omega) (by omega) (by omega) (by omega)]
  have q9 : waI U = waI w := by unfold waI; rw [Ui 56 (by omega) (by omega) (by omega) (by omega) (by omega)]
  have q10 : peI U = peI w := by unfold peI; rw [Ui 59 (by omega) (by omega) (by omega) (by omega) (by omega)]
  have q8 : deI U = deI w := by unfold deI; rw [U52]
  have U19 : U.i 19 = w.i 19 := by rw [u1]; exact S19
  have q1 : op U = op w := by unfold op; rw [U19]
  have iU : INVW U := by
    refine ⟨lYS.2.2.2.1.of (by rw [u1]) (by rw [u1]) (by rw [u1]) (by rw [u1]) (by rw [u1]) (by rw [u2]), hI.2.1.kp kU, by rw [u1]; exact S15, tabU, ?_⟩
    unfold NUMW at nw ⊢
    rw [q1, cat.cd, q2, q3, seU, slU, cat.go, q8, q9, q10, caU, tU]
    omega
  refine hC U NL cat sen hne iU kU (a4.cat cat) ?_ U19 U52 U75 (fun z => by rw [Ui 18 (by omega) (by omega) (by omega) (by omega) (by omega)]; exact z) (by omega) (by omega) ?_ fcU chU (by rw [U71]; exact V71) (fun k q1 q2 q3 q4 => locU k t q1 q2 q3 q4)
  · unfold tpI; rw [Ui 63 (by omega) (by omega) (by omega) (by omega) (by omega)]; exact a2
  · unfold RATN at d1 ⊢
    rw [cat.cd, q2, q3, slU, q10, caU, tU]
    omega
