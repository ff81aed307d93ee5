/-! both machines: a step, an end, thrown again, for without a condition, jumps that leave no frame -/
/-- both end without a value -/
theorem rnz_pl {nm : Nat → Nat → Prop} {s S : CS} {r V : RS} {mu : Nat → Nat} {AL : Als} {h p q : Nat} {c : List Ent} {n : Int} (sy : SYN nm s r mu AL h p q c n) (ei : ∀ j : Nat, j ≠ 66 → j ≠ 72 → S.i j = s.i j) (ea : S.a = s.a) (gi : ∀ j : Nat, j ≠ 92 → j ≠ 115 → V.i j = r.i j) (ga : V.a = r.a) (h72 : ¬ S.i 72 = 1 ∧ ¬ S.i 72 = 2) (h115 : ¬ V.i 115 = 2 ∧ ¬ V.i 115 = 3) : RNZ S V := by
  obtain ⟨⟨-, -, ⟨⟨m1, -, -⟩, ⟨m2, m3⟩, m4⟩, -⟩, ⟨⟨-, -, d3, -⟩, -⟩, -⟩ := sy
  refine ⟨⟨?_, ?_, ?_⟩, ⟨⟨fun z => absurd z h72.1, fun z => absurd z h115.1⟩, fun z => absurd z h72.2, fun z => absurd z h115.2⟩, fun z => absurd z h115.1, fun k hk => ?_, ?_, fun z => absurd z h115.2⟩
  · rw [ei 70 (by decide) (by decide), gi 80 (by decide) (by decide)]
    exact m1
  · rw [ei 69 (by decide) (by decide), gi 81 (by decide) (by decide)]
    exact m2
  · rw [gi 81 (by decide) (by decide)]
    exact m3
  · rw [gi 81 (by decide) (by decide)] at hk
    rw [ea, ga]
    exact m4 k hk
  · rw [ei 71 (by decide) (by decide), hS_of (r := r) (R := V) (by rw [ga]) 8]
    exact d3
def UStp (s0 : CS) (r0 : RS) (AL : Als) (p q h w : Nat) (c : List Ent) : Prop := s0.a 15 p = 51 ∧ r0.a 21 q = 1 ∧ 1 ≤ w ∧ ∃ w' : Nat, w' ≤ w + 2528 ∧ AL (p + 1) (q + 1) h w' 1 c
theorem u_stp {N H n : Nat} (hN : 10000000000 ≤ N) {D : Nat → List Nat} {T : Int32 × CS} {s0 : CS} {r0 : RS} {nm : Nat → Nat → Prop} {AL : Als} {s : CS} {r : RS} {mu : Nat → Nat} {h p q w g : Nat} {c : List Ent} {x : Int32} {U : Int32 × RS} (hct : HCT nm AL) (pt : PTX N H D T s0 r0 nm AL s r mu h p q w g c x) (hq : (q : Int) < (r0.i 20).toInt) (u : UStp s0 r0 AL p q h w c) (e : f_X12_run_122 N n r = some U) : NXTW N H D T s0 r0 nm AL n U := by
  obtain ⟨u1, u2, u3, w', u5, u6⟩ := u
  obtain ⟨m, S, V, hn, ⟨e1, e2, e3, e4⟩, ⟨v1, v2, v3⟩, ⟨o1, o2⟩, oc, ⟨hp, hq3⟩, x1⟩ := pt_tick hN hct pt hq u3 e
  have rf := pt.2.1
  have h21 : r.a 21 q = r0.a 21 q := by rw [rf.2 21 (by decide)]
  have gn := gcr_nn (g := g)
  have gn' := gpo_nn (g := g)
  obtain ⟨-, ck, -⟩ := hct _ _ _ _ _ _ pt.2.2.2.2.1
  rcases un_step pt.2.2.1.1 (by omega) (by omega) (o1.trans u1) (h21.trans u2) e1 v1 with ⟨z1, z2⟩ | ⟨⟨m1, m2, m3⟩, m4⟩
  · right
    have z1' : S = CS.setI (cNx s) 72 3 := z1
    have s72 : S.i 72 = 3 := by rw [z1', ci_at]
    have v115 : V.i 115 = 5 := by rw [z2, ri_ne (by decide), ri_at]
    have eT := e4 (by rw [s72]; decide)
    have ru := rn_end (Or.inl (by rw [z2, ri_at]; decide)) v2
    unfold f_X12_run_163 at ru
    rw [if_neg (by rw [v115]; decide), if_neg (by rw [v115]; decide), if_pos v115] at ru
    rw [eT, ← Option.some.inj ru]
    refine ⟨rnz_pl pt.2.2.1 (fun j a b => by rw [z1', ci_ne _ _ _ b, cNx_i a]) (by rw [z1']; rfl) (fun j a b => by rw [z2, ri_ne a, ri_ne b, rNx_i a]) (by rw [z2]; rfl) (by rw [s72]; decide) (by rw [v115]; decide), s72⟩
  · obtain ⟨p1, p2, ⟨p3, p4, p5⟩, p6, p7, p8⟩ := pt
    obtain ⟨⟨d1, d2, d3, ⟨d4, d5⟩, d6, d7⟩, o⟩ := p4.ex ck m2 m3
    have i85 : V.i 85 = r.i 85 := m3.1 85 (by decide) (by decide) (by decide) (by decide)
    have d5' := p4.1.2.2.2.1.2
    refine Or.inl ⟨m, S, V, mu, h, p + 1, q + 1, w', 1, c, x + 1, by omega, ⟨e3 m1.1.1.1, v3, ⟨m1, ⟨⟨d1, d2, d3, ⟨d4, ?_⟩, d6, d7⟩, o⟩, p5.ex m2 m3⟩, BTP.no (by decide), u6, ?_⟩, v2⟩
    · show (V.i 85).toInt + tps c ≤ 2 * (V.i 80).toInt + -2
      rw [i85, m4]
      omega
    · rw [m4, x1]
      show x.toInt + 1 + fps c + w' + 1461 ≤ _
      omega
/-- the end of the code -/
def UEnd (s0 : CS) (p q w : Nat) (r0 : RS) : Prop := s0.a 15 p = 50 ∧ (q : Int) = (r0.i 20).toInt ∧ 1 ≤ w
theorem u_end {N H n : Nat} (hN : 10000000000 ≤ N) {D : Nat → List Nat} {T : Int32 × CS} {s0 : CS} {r0 : RS} {nm : Nat → Nat → Prop} {AL : Als} {s : CS} {r : RS} {mu : Nat → Nat} {h p q w g : Nat} {c : List Ent} {x : Int32} {U : Int32 × RS} (hct : HCT nm AL) (pt : PTX N H D T s0 r0 nm AL s r mu h p q w g c x) (u : UEnd s0 p q w r0) (e : f_X12_run_122 N n r = some U) : NXTW N H D T s0 r0 nm AL n U := by
  obtain ⟨u1, u2, u3⟩ := u
  obtain ⟨bx, x0⟩ := bud_x pt
  obtain ⟨p1, p2, p3, -, p6, -⟩ := pt
  obtain ⟨⟨hp, hq3⟩, -⟩ := hct _ _ _ _ _ _ p6
  have mc := p3.1
  obtain ⟨S, e1, e2, e3, e4⟩ := p1.on hN mc.1.1.1 mc.1.1.2 (by omega)
  have o := (cop_at mc.1.2.1 hp).1
  rw [p1.2.1.2.1 15 (by decide)] at o
  have eS : S = CS.setI (cNx s) 72 0 := xi_50 (o.trans u1) e1
  have s72 : S.i 72 = 0 := by rw [eS, ci_at]
  have eT := e4 (by rw [s72]; decide)
  have r115 : r.i 115 = 0 := p3.2.1.1.2.2.2.2.2
  have q92 := mc.1.2.2
  have ru := rn_end (Or.inr (by rw [p2.1 20 (by decide), q92, u2]; exact Int.le_refl _)) e
  unfold f_X12_run_163 at ru
  rw [if_neg (by rw [r115]; decide), if_neg (by rw [r115]; decide), if_neg (by rw [r115]; decide)] at ru
  right
  rw [eT, ← Option.some.inj ru]
  exact ⟨rnz_pl p3 (fun j a b => by rw [eS, ci_ne _ _ _ b, cNx_i a]) (by rw [eS]; rfl) (fun _ _ _ => rfl) rfl (by rw [s72]; decide) (by rw [r115]; decide), s72⟩
/-- for without a condition -/
def UFor (s0 : CS) (r0 : RS) (AL : Als) (p q h w : Nat) (c : List Ent) : Prop := s0.a 15 p = 30 ∧ (r0.a 21 q = 2 ∧ r0.a 22 q = 1 ∧ r0.a 21 (q + 1) = 13 ∧ r0.a 21 (q + 2) = 15 ∧ ((q + 2 : Nat) : Int) < (r0.i 20).toInt) ∧ JX s0 AL (s0.a 16 p) (r0.a 22 (q + 2)) h w 1 0 c
theorem u_for {N H n : Nat} (hN : 10000000000 ≤ N) {D : Nat → List Nat} {T : Int32 × CS} {s0 : CS} {r0 : RS} {nm : Nat → Nat → Prop} {AL : Als} {s : CS} {r : RS} {mu : Nat → Nat} {h p q w g : Nat} {c : List Ent} {x : Int32} {U : Int32 × RS} (hct : HCT nm AL) (pt : PTX N H D T s0 r0 nm AL s r mu h p q w g c x) (hq : (q : Int) < (r0.i 20).toInt) (u : UFor s0 r0 AL p q h w c) (e : f_X12_run_122 N n r = some U) : NXTW N H D T s0 r0 nm AL n U := by
  obtain ⟨u1, ⟨u2, u3, u4, u5, u6⟩, p', q', w', ⟨u7, u8⟩, u9, u10⟩ := u
  obtain ⟨m, S, V, hn, ⟨e1, e2, e3, e4⟩, ⟨v1, v2, v3⟩, ⟨o1, o2⟩, oc, ⟨hp, hq3⟩, x1⟩ := pt_tick hN hct pt hq (by omega) e
  have rf := pt.2.1
  have mc := pt.2.2.1.1
  have h21 : r.a 21 = r0.a 21 := rf.2 21 (by decide)
  have h22 : r.a 22 = r0.a 22 := rf.2 22 (by decide)
  have hv := mc.2.1.1
  -- PUSH 1
  have g1 := xa_2 (r := rNx r) (by rw [mc.clq]; show r.a 21 q = 2; rw [h21]; exact u2) v1
  have ev1 : V = rPu (rNx r) 1 := by
    rw [g1, mc.clq]
    show rPu (rNx r) (r.a 22 q) = _
    rw [h22, u3]
  have n92 : ((rNx r).i 92).toInt = ((q + 1 : Nat) : Int) := (mc.nx (by omega) (by omega)).2.2.2
  have V92 : (V.i 92).toInt = ((q + 1 : Nat) : Int) := by
    rw [ev1, rPu_i (by decide)]
    exact n92
  have r93 : ((rNx r).i 93).toInt = (h : Int) := by
    rw [rNx_i (by decide)]
    exact hv.2.1
  have V93 : (V.i 93).toInt = (h : Int) + 1 := by
    rw [ev1]
    show ((RS.setI (RS.setA (rNx r) 94 ((rNx r).i 93).toNatClampNeg 1) 93 ((rNx r).i 93 + 1)).i 93).toInt = _
    rw [ri_at, ad1 (by omega) (by omega), r93]
  have Vtop : rTp V = 1 := by
    unfold rTp
    rw [cl_nat (sub_n1 V93), ev1]
    show (RS.setA (rNx r) 94 ((rNx r).i 93).toNatClampNeg 1).a 94 h = 1
    rw [cl_nat r93, setA_at]
  have Va : ∀ k : Nat, k ≠ 94 → V.a k = r.a k := fun k a => by
    rw [ev1, rPu_a a]
    rfl
  have i20 : V.i 20 = r0.i 20 := v3.1 20 (by decide)
  cases m with
  | zero => cases v2
  | succ m =>
    obtain ⟨V2, a1, a2⟩ := rn_one (by omega) (by rw [i20]; omega) v2
    have g2 := xa_13 (r := RS.setI V 92 (V.i 92 + 1)) (by rw [cl_nat V92]; show V.a 21 (q + 1) = 13; rw [Va 21 (by decide), h21]; exact u4) a1
    have t2 : rTp (RS.setI V 92 (V.i 92 + 1)) = 1 := by
      unfold rTp
      rw [ri_ne (by decide)]
      exact Vtop
    rw [t2, if_neg (by decide)] at g2
    have V2i : ∀ j : Nat, j ≠ 92 → j ≠ 93 → V2.i j = r.i j := fun j a b => by
      rw [g2, ri_ne a, rPo_i b, ri_ne a, ev1, rPu_i b, rNx_i a]
    have V292 : (V2.i 92).toInt = ((q + 2 : Nat) : Int) := by
      rw [g2, ri_at, ri_at, ad1 (by omega) (by omega), V92]
      omega
    have V293 : V2.i 93 = r.i 93 := Int32.toInt_inj.mp (by
      rw [g2, ri_ne (by decide), hv.2.1]
      show ((RS.setI (RS.setI V 92 (V.i 92 + 1)) 93 ((RS.setI V 92 (V.i 92 + 1)).i 93 - 1)).i 93).toInt = _
      rw [ri_at, ri_ne (by decide)]
      exact sub_n1 V93)
    have V2a : V2.a = V.a := by
      rw [g2]
      rfl
    have j20 : V2.i 20 = r0.i 20 := (V2i 20 (by decide) (by decide)).trans (rf.1 20 (by decide))
    cases m with
    | zero => cases a2
    | succ m =>
      obtain ⟨V3, b1, b2⟩ := rn_one (by omega) (by rw [j20]; omega) a2
      have g3 := xa_15 (r := RS.setI V2 92 (V2.i 92 + 1)) (by rw [cl_nat V292]; show V2.a 21 (q + 2) = 15; rw [V2a, Va 21 (by decide), h21]; exact u5) b1
      rw [cl_nat V292] at g3
      have V3i : ∀ j : Nat, j ≠ 92 → V3.i j = r.i j := fun j a => by
        rw [g3, ri_ne a, ri_ne a]
        by_cases z : j = 93
        · rw [z]
          exact V293
        · exact V2i j a z
      have V392 : (V3.i 92).toInt = (q' : Int) := by
        rw [g3, ri_at]
        show (V2.a 22 (q + 2)).toInt = _
        rw [V2a, Va 22 (by decide), h22]
        exact u8
      have V3a : ∀ k : Nat, k ≠ 94 → V3.a k = r.a k := fun k a => by
        rw [g3]
        show V2.a k = r.a k
        rw [V2a, Va k a]
      have V394 : ∀ k : Nat, k < h → V3.a 94 k = r.a 94 k := fun k hk => by
        rw [g3]
        show V2.a 94 k = r.a 94 k
        rw [V2a, ev1]
        show (RS.setA (rNx r) 94 ((rNx r).i 93).toNatClampNeg 1).a 94 k = r.a 94 k
        rw [cl_nat r93, setA_ne (by omega)]
        rfl
      have ev : EXV nm r V3 := ⟨fun j _ _ a _ => V3i j a, fun k _ _ _ a => V3a k a, fun l _ => by rw [V3a 84 (by decide)], le_80 (V3i 80 (by decide))⟩
      have eS : S = CS.setI (cNx s) 66 (cTg s (cAr s)) := xi_30 (o1.trans u1) e1
      have ec : EXC nm s S := by
        rw [eS]
        exact ⟨fun j _ a _ _ => by rw [ci_ne _ _ _ a, cNx_i a], fun _ _ _ _ => rfl, ⟨rfl, rfl, rfl, rfl, rfl⟩, fun _ _ => rfl⟩
      have S72 : S.i 72 = -1 := (ec.1 72 (by decide) (by decide) (by decide) (by decide)).trans mc.1.1.1
      have m3 : MCO nm S V3 h p' q' := by
        refine ⟨⟨⟨S72, (ec.1 73 (by decide) (by decide) (by decide) (by decide)).trans mc.1.1.2⟩, by rw [eS, ci_at, oc, o2]; exact u7, V392⟩, ⟨⟨by rw [eS, ci_ne _ _ _ (by decide), cNx_i (by decide)]; exact hv.1, by rw [V3i 93 (by decide)]; exact hv.2.1, hv.2.2⟩, fun k hk => ?_⟩, mc.2.2.1.of (by rw [eS, ci_ne _ _ _ (by decide), cNx_i (by decide)]) (by rw [eS, ci_ne _ _ _ (by decide), cNx_i (by decide)]) (by rw [eS]; rfl) (V3i 80 (by decide)) (V3i 81 (by decide)) (V3a 82 (by decide)) (V3a 83 (by decide)), fun k l hk => ?_⟩
        · rw [V394 k hk, eS]
          exact mc.2.1.2 k hk
        · rw [V3a 84 (by decide), eS]
          exact mc.2.2.2 k l hk
      exact pl_fink (k := 1) hct pt (by omega) (by omega) (e3 S72) (rf.tr ev.rfx) b2 m3 ec ev u10 u9 (by decide) (BTP.no (by decide))
/-- a rest of the entries -/
theorem FRS.sub {s : CS} {r : RS} {mu : Nat → Nat} {AL : Als} : ∀ {c1 c0 : List Ent} {m : Int}, FRS s r mu AL (c1 ++ c0) m → ∃ m' : Int, FRS s r mu AL c0 m'
  | [], _, m, h => ⟨m, h⟩
  | a :: c1, c0, m, ⟨_, h⟩ => by
    rcases h with ⟨-, -, -, h⟩ | ⟨-, -, -, -, h⟩ | ⟨-, -, -, -, h⟩ | ⟨-, -, -, -, h⟩ | ⟨-, -, m0, -, h⟩ | ⟨-, -, -, h⟩
    · exact FRS.sub h
    · exact FRS.sub h
    · exact FRS.sub h
    · exact FRS.sub h
    · exact FRS.sub h
    · exact FRS.sub h
theorem frs_ap (a b : List Ent) : frs b ≤ frs (a ++ b) := by
  induction a with
  | nil => exact Nat.le_refl _
  | cons z a ih => exact Nat.le_trans ih frs_le
/-- RETHROW, AGAIN -/
def UAga (s0 : CS) (r0 : RS) (AL : Als) (p q h w : Nat) (c : List Ent) : Prop := s0.a 15 p = 64 ∧ r0.a 21 q = 21 ∧ ∃ u : Nat, u + 2 ≤ w ∧ TYC s0 r0 AL u c ∧ ∃ (c1 : List Ent) (a : Ent) (c0 : List Ent), c = c1 ++ a :: c0 ∧ a.k = 2 ∧ (s0.a 16 p).toInt = (frs c0 : Int) ∧ (r0.a 22 q).toInt = (a.w : Int)
theorem u_aga {N H n : Nat} (hN : 10000000000 ≤ N) {D : Nat → List Nat} {T : Int32 × CS} {s0 : CS} {r0 : RS} {nm : Nat → Nat → Prop} {AL : Als} {s : CS} {r : RS} {mu : Nat → Nat} {h p q w g : Nat} {c : List Ent} {x : Int32} {U : Int32 × RS} (hct : HCT nm AL) (pt : PTX N H D T s0 r0 nm AL s r mu h p q w g c x) (hq : (q : Int) < (r0.i 20).toInt) (u : UAga s0 r0 AL p q h w c) (e : f_X12_run_122 N n r = some U) : NXTW N H D T s0 r0 nm AL n U := by
  obtain ⟨y1, y2, u, u1, u3, c1, a, c0, y3, ak, y4, y5⟩ := u
  obtain ⟨m, S, V, hn, ⟨e1, e2, e3, e4⟩, ⟨v1, v2, v3⟩, ⟨o1, o2⟩, oc, ⟨hp, hq3⟩, x1⟩ := pt_tick hN hct pt hq (by omega) e
  have rf := pt.2.1
  have h21 : r.a 21 q = r0.a 21 q := by rw [rf.2 21 (by decide)]
  have h22 : r.a 22 q = r0.a 22 q := by rw [rf.2 22 (by decide)]
  have mc := pt.2.2.1.1
  obtain ⟨-, ck, -, d22, hh⟩ := hct _ _ _ _ _ _ pt.2.2.2.2.1
  obtain ⟨t1, t2, t3⟩ := un_nx mc (by omega) (by omega)
  have dy := pt.2.2.1.2.1.ex ck t2 t3
  have tr := pt.2.2.1.2.2.ex t2 t3
  have gn := gcr_nn (g := g)
  have gn' := gpo_nn (g := g)
  have frc := pt.2.2.1.2.1.1.1
  rw [y3] at frc
  obtain ⟨m', -, fa⟩ := frc.sub
  have fl : frs (a :: c0) ≤ frs c := by
    rw [y3]
    exact frs_ap c1 (a :: c0)
  have fu : frs (a :: c0) = frs c0 + 1 := frs_up (by omega)
  rcases fa with ⟨k0, -⟩ | ⟨k0, -⟩ | ⟨k2, a1, a2, ⟨f, b, a3, a4, a5, a6, a7, a8⟩, a9⟩ | ⟨k0, -⟩ | ⟨k0, -⟩ | ⟨k0, -⟩
  · omega
  · omega
  · have d67 := pt.2.2.1.2.1.1.2.1.1
    have eS : S = cAg (cNx s) b := xi_64 (d := frs c0) (o1.trans y1) (by rw [o2]; exact y4) (by omega) (by omega) a3.1 a5 e1
    have lv := xa_21 (r := rNx r) (by rw [mc.clq]; exact h21.trans y2) v1
    have e84 : (rNx r).a 84 ((rNx r).a 22 (r.i 92).toNatClampNeg).toNatClampNeg = r.a 84 a.w := by
      rw [mc.clq]
      show r.a 84 (r.a 22 q).toNatClampNeg = _
      rw [h22, cl_nat y5]
    rw [e84] at lv
    obtain ⟨g1, ⟨g2, g3, g4⟩, g5, g6, g7, g8, g9, g10⟩ := cag_f (s := cNx s) (b := b)
    rw [← eS] at g1 g2 g3 g4 g5 g6 g7 g8 g9 g10
    have S72 : S.i 72 = -1 := (g1 72 (by decide) (by decide) (by decide)).trans t1.1.1.1
    obtain ⟨W, hW⟩ : ∃ W, W = RS.setI (RS.setI (rNx r) 114 (r.a 84 a.w)) 110 3 := ⟨_, rfl⟩
    rw [← hW] at lv
    have Wi : ∀ j : Nat, j ≠ 110 → j ≠ 114 → W.i j = (rNx r).i j := fun j a b => by rw [hW, ri_ne a, ri_ne b]
    have W110 : W.i 110 = 3 := by rw [hW, ri_at]
    have W114 : W.i 114 = r.a 84 a.w := by rw [hW, ri_ne (by decide), ri_at]
    have Wa : W.a = (rNx r).a := by
      rw [hW]
      rfl
    clear hW
    have tl : TLV S W mu b := by
      have q := a6.ex t2 t3
      unfold TLV THG inP at *
      rw [g7, g8, g10, Wa, Wi 85 (by decide) (by decide), Wi 3 (by decide) (by decide)]
      exact q
    have l : LVR nm S W mu AL h c 0 u := lvr_mk t1 dy (by omega) tr g1 g6 ⟨g7, g8, g9, g10⟩ (fun j z => Wi j (by omega) (by omega)) Wa (Or.inr (Or.inr (Or.inr ⟨g2, W110, g4, b, g5, by rw [W114]; exact a7, tl⟩)))
    have wr : RFX r0 W := rf.tr (t3.rfx.tr ⟨fun j hj => Wi j (by omega) (by omega), fun k _ => by rw [Wa]⟩)
    exact lv_unit hN hct pt (by omega) v2 v3 (e3 S72) wr ((Wi 80 (by decide) (by decide)).trans (rNx_i (by decide))) ⟨ck, d22, hh⟩ u3 l (by omega) lv
  · omega
  · omega
  · omega
