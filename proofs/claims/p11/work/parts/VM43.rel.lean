/-! both machines: a lock is let go; arms, rows end; jumps that leave no frame -/
def URel (s0 : CS) (r0 : RS) (AL : Als) (p q w h : Nat) (c : List Ent) : Prop := s0.a 15 p = 60 ∧ r0.a 21 q = 27 ∧ ∃ (a : Ent) (c0 : List Ent) (p' w' : Nat), c = a :: c0 ∧ a.k = 0 ∧ (s0.a 16 p - s0.a 16 p / 32 * 32).toInt = (frs c0 : Int) ∧ (cTg s0 (s0.a 16 p / 32)).toInt = (p' : Int) ∧ AL p' (q + 1) h w' 0 c0 ∧ w' + 1 ≤ w
theorem u_rel {N H n : Nat} (hN : 10000000000 ≤ N) {D : Nat → List Nat} {T : Int32 × CS} {s0 : CS} {r0 : RS} {nm : Nat → Nat → Prop} {AL : Als} {s : CS} {r : RS} {mu : Nat → Nat} {h p q w g : Nat} {c : List Ent} {x : Int32} {U : Int32 × RS} (hct : HCT nm AL) (pt : PTX N H D T s0 r0 nm AL s r mu h p q w g c x) (hq : (q : Int) < (r0.i 20).toInt) (u : URel s0 r0 AL p q w h c) (e : f_X12_run_122 N n r = some U) : NXTW N H D T s0 r0 nm AL n U := by
  obtain ⟨y1, y2, a, c0, p', w', ec, ak, y3, y4, y5, y6⟩ := u
  obtain ⟨m, S1, V, hn, ⟨e1, e2, e3, e4⟩, ⟨v1, v2, v3⟩, ⟨o1, o2⟩, oc, ⟨hp, hq3⟩, x1⟩ := pt_tick hN hct pt hq (by omega) e
  obtain ⟨bx, x0⟩ := bud_x pt
  have rf := pt.2.1
  have h21 : r.a 21 q = r0.a 21 q := by rw [rf.2 21 (by decide)]
  have mc := pt.2.2.1.1
  obtain ⟨-, ck, -, d22, hh⟩ := hct _ _ _ _ _ _ pt.2.2.2.2.1
  obtain ⟨t1, t2, t3⟩ := un_nx mc (by omega) (by omega)
  have dy := pt.2.2.1.2.1.ex ck t2 t3
  have tr := pt.2.2.1.2.2.ex t2 t3
  have gn := gcr_nn (g := g)
  have gn' := gpo_nn (g := g)
  have b6 := pt.2.2.2.2.2
  have eS : S1 = CS.setI (CS.setI (CS.setI (cNx s) 73 1) 74 0) 75 (cAr s) := xi_60 (o1.trans y1) e1
  have s73 : S1.i 73 = 1 := by rw [eS, ci_ne _ _ _ (by decide), ci_ne _ _ _ (by decide), ci_at]
  have s75 : S1.i 75 = s0.a 16 p := by rw [eS, ci_at, o2]
  have ex : EXB nm S1 (rNx r) mu AL h c (-(gcr g)) := (t1.exb dy tr).wpl (by
    rw [eS]
    exact ⟨fun j _ a b d => by rw [ci_ne _ _ _ d, ci_ne _ _ _ b, ci_ne _ _ _ a], rfl, ⟨rfl, rfl, rfl, rfl⟩, fun _ _ _ => rfl, rfl⟩)
  rw [ec] at ex d22 b6 bx
  obtain ⟨x72, ⟨xv, xm, xn⟩, ⟨⟨⟨d0, d1⟩, ⟨d2, d2'⟩, d3, ⟨d4, d5⟩, d6, d7⟩, op⟩, xt⟩ := id ex
  have hf : frs (a :: c0) = frs c0 + 1 := frs_up (by omega)
  have fp : fps (a :: c0) = fps c0 + 2 := by
    show fps c0 + (if a.k = 0 then 2 else if a.k = 1 then 1460 else if a.k = 2 then 1154 else if a.k = 3 then 1152 else 0) = fps c0 + 2
    rw [if_pos ak]
  rw [fp] at b6 bx
  obtain ⟨z1, z2⟩ := idx1 (r := rNx r) (k := c0.length) d2'
  have cr1 := e3 x72
  rcases d1 with ⟨k0, a1, ⟨f, a2, a3⟩, a4⟩ | ⟨k0, -⟩ | ⟨k0, -⟩ | ⟨k0, -⟩ | ⟨k0, -⟩ | ⟨k0, -⟩
  · have lt : LTG S1 := by
      unfold LTG
      rw [Int32.lt_iff_toInt_lt, s75, y3, d2, hf]
      omega
    obtain ⟨S2, g1, -, g3⟩ := cr1.lv hN x72 (by rw [s73]; decide) (by omega)
    obtain ⟨P, p1, eS2⟩ := lo_0 (by rw [d2, hf]; omega) (by omega) a2.1 lt a2.2.1 g1
    rw [a3] at p1
    obtain ⟨Q, b1, b2, b3⟩ := xp_27 (r := rNx r) (by rw [mc.clq]; exact h21.trans y2) v1
    rw [z2] at b1
    have m0 : MTR (CS.setI S1 71 (S1.i 71 - 1)) (RS.setI (rNx r) 99 ((rNx r).i 99 - 1)) := xm.of (ci_ne _ _ _ (by decide)) (ci_ne _ _ _ (by decide)) rfl (ri_ne (by decide)) (ri_ne (by decide)) rfl rfl
    obtain ⟨n1, n2, n3, ⟨n4, n5, n6, n7, n8⟩, n9, n10⟩ := m0.note p1 b1
    have Q99 : (Q.i 99).toInt = (c0.length : Int) := by
      rw [n9 99 (by decide), ri_at]
      exact z1
    rw [cl_nat Q99] at b2 b3
    obtain ⟨k8, hk8⟩ : ∃ k : Nat, (Q.a 101 c0.length).toInt = (k : Int) := ⟨(Q.a 101 c0.length).toInt.toNat, by have := b2.1; omega⟩
    have k8' : k8 < 8 := by have := b2.2; omega
    rw [cl_nat hk8] at b3
    have Vi : ∀ j : Nat, j ≠ 81 → j ≠ 99 → V.i j = (rNx r).i j := fun j q1 q2 => by
      rw [b3]
      show Q.i j = _
      rw [n9 j q1, ri_ne q2]
    have V99 : (V.i 99).toInt = (c0.length : Int) := by
      rw [b3]
      exact Q99
    have Va : ∀ j : Nat, j ≠ 82 → j ≠ 83 → j ≠ 91 → V.a j = (rNx r).a j := fun j q1 q2 q3 => by
      rw [b3, setA_nk q3, n10 j q1 q2]
      rfl
    have q91 : Q.a 91 = (rNx r).a 91 := n10 91 (by decide) (by decide)
    have hs : hS V 8 = hS (rNx r) 8 + -1 := (hS_dec (r := rNx r) (R := V) (m := k8) (v := -1) (by rw [b3, setA_at, q91, Int32.sub_eq_add_neg]) (fun j a => by rw [b3, setA_ne a, q91]) 8).2 k8'
    have sm : SAM S1 S2 (rNx r) V := by
      refine ⟨fun j q1 q2 q3 => ?_, fun k q1 => ?_, ?_, fun j q1 _ q3 => Vi j q1 q3, fun k q1 q2 q3 => Va k q1 q2 q3⟩
      · rw [eS2, ci_ne _ _ _ q1, n2 j q2, ci_ne _ _ _ q3]
      · rw [eS2]
        exact n3 k q1
      · rw [eS2]
        exact ⟨n4, n5, n6, n7, n8⟩
    have mt : MTR S2 V := n1.of (by rw [eS2, ci_ne _ _ _ (by decide)]) (by rw [eS2, ci_ne _ _ _ (by decide)]) (by rw [eS2]; rfl) (by rw [b3]; rfl) (by rw [b3]; rfl) (by rw [b3, setA_nk (by decide)]) (by rw [b3, setA_nk (by decide)])
    have ex2 : EXB nm S2 V mu AL h c0 (-(gcr g)) := exb_sam ex (by omega) sm mt (by rw [Vi 97 (by decide) (by decide)]; exact a4) (by
      rw [eS2, ci_at, n2 67 (by decide), ci_ne _ _ _ (by decide)]
      exact sub_n1 (by rw [d2, hf]; omega)) V99 (by rw [eS2, ci_ne _ _ _ (by decide), n2 71 (by decide), ci_at, hs, d3, Int32.sub_eq_add_neg])
    have T75 : S2.i 75 = s0.a 16 p := (sm.1 75 (by decide) (by decide) (by decide)).trans s75
    have T73 : S2.i 73 = 1 := (sm.1 73 (by decide) (by decide) (by decide)).trans s73
    have a17 : S2.a 17 = s0.a 17 := g3.2.1.2.1 17 (by decide)
    have ec2 : cTg S2 = cTg s0 := by
      funext t
      unfold cTg
      rw [a17]
    have x2 : (x + 1 + 1).toInt = x.toInt + 1 + 1 := by rw [ad1 (by omega) (by omega), x1]
    obtain ⟨S3, c3, sy⟩ := ex_arr (p := p') (q := q + 1) hN g3 (by omega) (by omega) (ex2.n0 (n' := 0) (by omega)) T73 (by rw [T75]; exact y3) (by rw [T75, ec2]; exact y4) (by rw [Vi 92 (by decide) (by decide)]; exact t1.1.2.2)
    have v80 : V.i 80 = r.i 80 := (Vi 80 (by decide) (by decide)).trans (rNx_i (by decide))
    refine Or.inl ⟨m, S3, V, mu, h, p', q + 1, w', 0, c0, x + 1 + 1 + 1, by omega, ⟨c3, v3, sy, BTP.no (by decide), y5, ?_⟩, v2⟩
    rw [v80, ad1 (by omega) (by omega), x2]
    show x.toInt + 1 + 1 + 1 + (fps c0 : Int) + w' + 0 ≤ _
    omega
  · omega
  · omega
  · omega
  · omega
  · omega
/-- an arm ends -/
def UAre (s0 : CS) (r0 : RS) (AL : Als) (p q h w : Nat) (c : List Ent) : Prop := s0.a 15 p = 30 ∧ r0.a 21 q = 30 ∧ ∃ (a : Ent) (c0 : List Ent), c = a :: c0 ∧ a.k = 5 ∧ JX s0 AL (s0.a 16 p) (r0.a 23 a.x) h w 1 0 c0
theorem u_are {N H n : Nat} (hN : 10000000000 ≤ N) {D : Nat → List Nat} {T : Int32 × CS} {s0 : CS} {r0 : RS} {nm : Nat → Nat → Prop} {AL : Als} {s : CS} {r : RS} {mu : Nat → Nat} {h p q w g : Nat} {c : List Ent} {x : Int32} {U : Int32 × RS} (hct : HCT nm AL) (pt : PTX N H D T s0 r0 nm AL s r mu h p q w g c x) (hq : (q : Int) < (r0.i 20).toInt) (u : UAre s0 r0 AL p q h w c) (e : f_X12_run_122 N n r = some U) : NXTW N H D T s0 r0 nm AL n U := by
  obtain ⟨y1, y2, a, c0, ec, ak, p', q', w', ⟨y3, y4⟩, y5, y6⟩ := u
  obtain ⟨m, S, V, hn, ⟨e1, e2, e3, e4⟩, ⟨v1, v2, v3⟩, ⟨o1, o2⟩, oc, ⟨hp, hq3⟩, x1⟩ := pt_tick hN hct pt hq (by omega) e
  have rf := pt.2.1
  have h21 : r.a 21 q = r0.a 21 q := by rw [rf.2 21 (by decide)]
  have h23 : r.a 23 = r0.a 23 := rf.2 23 (by decide)
  have mc := pt.2.2.1.1
  obtain ⟨-, ck, -⟩ := hct _ _ _ _ _ _ pt.2.2.2.2.1
  obtain ⟨t1, t2, t3⟩ := un_nx mc (by omega) (by omega)
  have dy := pt.2.2.1.2.1.ex ck t2 t3
  have tr := pt.2.2.1.2.2.ex t2 t3
  have gn := gcr_nn (g := g)
  have gn' := gpo_nn (g := g)
  have b6 := pt.2.2.2.2.2
  have ex := t1.exb dy tr
  rw [ec] at ex b6
  obtain ⟨x72, ⟨xv, xm, xn⟩, ⟨⟨⟨d0, d1⟩, ⟨d2, d2'⟩, d3, ⟨d4, d5⟩, d6, d7⟩, op⟩, xt⟩ := id ex
  have hf : frs (a :: c0) = frs c0 := frs_eq (by omega)
  have fl := fps_le (e := a) (c := c0)
  obtain ⟨z1, z2⟩ := idx1 (r := rNx r) (k := c0.length) d2'
  rcases d1 with ⟨k0, -⟩ | ⟨k0, -⟩ | ⟨k0, -⟩ | ⟨k0, -⟩ | ⟨k0, -⟩ | ⟨k5, a1, a2, a3⟩
  · omega
  · omega
  · omega
  · omega
  · omega
  · have g1 := xp_30 (r := rNx r) (by rw [mc.clq]; exact h21.trans y2) v1
    rw [z2, cl_nat a2] at g1
    have eS : S = CS.setI (cNx s) 66 (cTg s (cAr s)) := xi_30 (o1.trans y1) e1
    have sm : SAM (cNx s) (cNx s) (rNx r) (RS.setI (rNx r) 99 ((rNx r).i 99 - 1)) := ⟨fun _ _ _ _ => rfl, fun _ _ => rfl, ⟨rfl, rfl, rfl, rfl, rfl⟩, fun j _ _ q => ri_ne q, fun _ _ _ _ => rfl⟩
    have ex1 : EXB nm (cNx s) (RS.setI (rNx r) 99 ((rNx r).i 99 - 1)) mu AL h c0 (-(gcr g)) := exb_sam ex (by omega) sm (xm.of rfl rfl rfl (ri_ne (by decide)) (ri_ne (by decide)) rfl rfl) (by rw [ri_ne (by decide)]; exact a3) (by rw [d2, hf]) (by rw [ri_at]; exact z1) (d3.trans (hS_of rfl 8).symm)
    have ex2 : EXB nm S V mu AL h c0 (-(gcr g)) := ex1.wpl (by
      rw [eS, g1]
      exact ⟨fun j a _ _ _ => ci_ne _ _ _ a, rfl, ⟨rfl, rfl, rfl, rfl⟩, fun j a _ => ri_ne a, rfl⟩)
    have v80 : V.i 80 = r.i 80 := by rw [g1, ri_ne (by decide), ri_ne (by decide), rNx_i (by decide)]
    refine Or.inl ⟨m, S, V, mu, h, p', q', w', 0, c0, x + 1, by omega, ⟨e3 ex2.1, v3, (ex2.n0 (n' := 0) (by omega)).syn (by rw [eS, ci_ne _ _ _ (by decide)]; exact t1.1.1.2) (by rw [eS, ci_at, oc, o2]; exact y3) (by rw [g1, ri_at]; show (r.a 23 a.x).toInt = _; rw [h23]; exact y4), BTP.no (by decide), y6, ?_⟩, v2⟩
    rw [v80, x1]
    show x.toInt + 1 + (fps c0 : Int) + w' + 0 ≤ _
    omega
/-- a row ends: the class does nothing -/
def URwp (r0 : RS) (AL : Als) (p q h w : Nat) (c : List Ent) : Prop := r0.a 21 q = 25 ∧ ∃ (a : Ent) (c0 : List Ent) (w' : Nat), c = a :: c0 ∧ a.k = 4 ∧ AL p (q + 1) h w' 0 c0 ∧ w' ≤ w
theorem u_rwp {N H n : Nat} {D : Nat → List Nat} {T : Int32 × CS} {s0 : CS} {r0 : RS} {nm : Nat → Nat → Prop} {AL : Als} {s : CS} {r : RS} {mu : Nat → Nat} {h p q w g : Nat} {c : List Ent} {x : Int32} {U : Int32 × RS} (hct : HCT nm AL) (pt : PTX N H D T s0 r0 nm AL s r mu h p q w g c x) (hq : (q : Int) < (r0.i 20).toInt) (u : URwp r0 AL p q h w c) (e : f_X12_run_122 N n r = some U) : NXTW N H D T s0 r0 nm AL n U := by
  obtain ⟨y2, a, c0, w', ec, ak, y5, y6⟩ := u
  obtain ⟨p1, p2, ⟨mc, p4, p5⟩, p6, p7, p8⟩ := pt
  obtain ⟨⟨hp, hq3⟩, ck, -⟩ := hct _ _ _ _ _ _ p7
  have h21 : r.a 21 q = r0.a 21 q := by rw [p2.2 21 (by decide)]
  have gn := gcr_nn (g := g)
  have gn' := gpo_nn (g := g)
  have q92 := mc.1.2.2
  have i20 : r.i 20 = r0.i 20 := p2.1 20 (by decide)
  cases n with
  | zero => cases e
  | succ m =>
    obtain ⟨V, v1, v2⟩ := rn_one (by omega) (by rw [i20]; omega) e
    have g1 := xp_25 (r := rNx r) (by rw [mc.clq]; exact h21.trans y2) v1
    have ex := mc.exb p4 p5
    rw [ec] at ex p8
    obtain ⟨x72, ⟨xv, xm, xn⟩, ⟨⟨⟨d0, d1⟩, ⟨d2, d2'⟩, d3, ⟨d4, d5⟩, d6, d7⟩, op⟩, xt⟩ := id ex
    have hf : frs (a :: c0) = frs c0 := frs_eq (by omega)
    have fl := fps_le (e := a) (c := c0)
    have d2n : ((rNx r).i 99).toInt = ((a :: c0).length : Int) := by
      rw [rNx_i (by decide)]
      exact d2'
    obtain ⟨z1, z2⟩ := idx1 (r := rNx r) (k := c0.length) d2n
    rcases d1 with ⟨k0, -⟩ | ⟨k0, -⟩ | ⟨k0, -⟩ | ⟨k0, -⟩ | ⟨k4, a1, m0, a2, a3⟩ | ⟨k0, -⟩
    · omega
    · omega
    · omega
    · omega
    · obtain ⟨i, b1, b2, b3, b4, -⟩ := a2
      rw [z2] at g1
      obtain ⟨R, hR⟩ : ∃ R, R = RS.setI (RS.setI r 97 (r.a 101 c0.length)) 99 (r.i 99 - 1) := ⟨_, rfl⟩
      have r99 : (rNx r).i 99 = r.i 99 := rNx_i (by decide)
      rw [r99] at z1 g1
      have sm : SAM s s r R := by
        rw [hR]
        exact ⟨fun _ _ _ _ => rfl, fun _ _ => rfl, ⟨rfl, rfl, rfl, rfl, rfl⟩, fun j _ q1 q2 => by rw [ri_ne q2, ri_ne q1], fun _ _ _ _ => rfl⟩
      have m97 : (R.i 97).toInt = m0 := by
        rw [hR, ri_ne (by decide), ri_at]
        exact b4
      have ex1 : EXB nm s R mu AL h c0 (-(gcr g)) := exb_sam ex (by omega) sm (xm.of rfl rfl rfl (by rw [hR, ri_ne (by decide), ri_ne (by decide)]) (by rw [hR, ri_ne (by decide), ri_ne (by decide)]) (by rw [hR]; rfl) (by rw [hR]; rfl)) (by rw [m97]; exact a3) (by rw [d2, hf]) (by rw [hR, ri_at]; exact z1) (by rw [d3, hR]; exact (hS_of rfl 8).symm)
      have Vi : ∀ j : Nat, j ≠ 92 → V.i j = R.i j := fun j q1 => by
        rw [g1, hR]
        by_cases q2 : j = 99
        · rw [q2, ri_at, ri_at]
        · by_cases q3 : j = 97
          · rw [q3, ri_ne (by decide), ri_at, ri_ne (by decide), ri_at]
            rfl
          · rw [ri_ne q2, ri_ne q3, ri_ne q2, ri_ne q3, rNx_i q1]
      have Va : V.a = R.a := by
        rw [g1, hR]
        rfl
      have ex2 : EXB nm s V mu AL h c0 (-(gcr g)) := ex1.wpl ⟨fun _ _ _ _ _ => rfl, rfl, ⟨rfl, rfl, rfl, rfl⟩, fun j a _ => Vi j a, Va⟩
      have v80 : V.i 80 = r.i 80 := by rw [Vi 80 (by decide), hR, ri_ne (by decide), ri_ne (by decide)]
      have v92 : (V.i 92).toInt = ((q + 1 : Nat) : Int) := by
        rw [g1, ri_ne (by decide), ri_ne (by decide)]
        unfold rNx
        rw [ri_at, ad1 (by omega) (by omega), q92]
        rfl
      have rv : RFX r0 V := p2.tr ⟨fun j hj => by rw [Vi j (by omega), hR, ri_ne (by omega), ri_ne (by omega)], fun k _ => by rw [Va, hR]; rfl⟩
      refine Or.inl ⟨m, s, V, mu, h, p, q + 1, w', 0, c0, x, by omega, ⟨p1, rv, (ex2.n0 (n' := 0) (by omega)).syn mc.1.1.2 mc.1.2.1 v92, BTP.no (by decide), y5, ?_⟩, v2⟩
      rw [v80]
      show x.toInt + (fps c0 : Int) + w' + 0 ≤ _
      omega
    · omega
