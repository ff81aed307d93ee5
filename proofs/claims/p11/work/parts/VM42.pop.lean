/-! both machines: units that end a finally, a lock, arms, a row; jumps that leave no frame -/
theorem exb_sam {nm : Nat → Nat → Prop} {s S : CS} {r R : RS} {mu : Nat → Nat} {AL : Als} {h : Nat} {e : Ent} {c : List Ent} {n : Int} (b : EXB nm s r mu AL h (e :: c) n) (hk : ¬ e.k = 1) (sm : SAM s S r R) (mt : MTR S R) (fr : FRS s r mu AL c (R.i 97).toInt) (i67 : (S.i 67).toInt = (frs c : Int)) (i99 : (R.i 99).toInt = (c.length : Int)) (tk : S.i 71 = hS R 8) : EXB nm S R mu AL h c n := by
  obtain ⟨l1, ⟨l2, l3, l4⟩, ⟨⟨d1, d2, d3, ⟨d4, d5⟩, d6, d7⟩, l6⟩, l10⟩ := b
  have feq : FEQ s S r R mu mu c (R.i 97).toInt := sm.feq
  have rfx := sm.rfx
  obtain ⟨m1, m2, ⟨m3, m4, m5, m6, m7⟩, m8, m9⟩ := sm
  have i85 : R.i 85 = r.i 85 := m8 85 (by decide) (by decide) (by decide)
  have i80 : R.i 80 = r.i 80 := m8 80 (by decide) (by decide) (by decide)
  have i95 : R.i 95 = r.i 95 := m8 95 (by decide) (by decide) (by decide)
  have i68 : S.i 68 = s.i 68 := m1 68 (by decide) (by decide) (by decide)
  have tl := tps_le (e := e) (c := c)
  refine ⟨(m1 72 (by decide) (by decide) (by decide)).trans l1, ⟨l2.of (m1 65 (by decide) (by decide) (by decide)) (m2 60 (by decide)) (m8 93 (by decide) (by decide) (by decide)) (m9 94 (by decide) (by decide) (by decide)), mt, fun k l q => ?_⟩, ⟨⟨fr.of feq, ⟨i67, i99⟩, tk, ⟨by rw [i85]; exact d4, by rw [i85, i80]; omega⟩, ?_, (m8 115 (by decide) (by decide) (by decide)).trans d7⟩, ?_⟩, l10.of (fun j hj => m1 j (by omega) (by omega) (by omega)) (fun k hk => m2 k (by omega)) rfx⟩
  · rw [m2 59 (by decide), m9 84 (by decide) (by decide) (by decide)]
    exact l4 k l q
  · unfold MUI at *
    rw [i85]
    exact d6
  · obtain ⟨o1, o2, o3, o4, o5, o6⟩ := l6.tl hk
    refine ⟨by rw [i68, i95]; exact o1, by rw [i95]; exact o2, by rw [i95]; exact o3, o4, fun k hk => ?_, by rw [i95]; exact o6.of (fun k _ => by rw [m9 103 (by decide) (by decide) (by decide)])⟩
    rw [i95] at hk
    rw [m2 63 (by decide), m9 96 (by decide) (by decide) (by decide)]
    exact o5 k hk
theorem EXB.n0 {nm : Nat → Nat → Prop} {s : CS} {r : RS} {mu : Nat → Nat} {AL : Als} {h : Nat} {c : List Ent} {n n' : Int} (b : EXB nm s r mu AL h c n) (hn : n ≤ n') : EXB nm s r mu AL h c n' := by
  obtain ⟨l1, l2, ⟨⟨d1, d2, d3, ⟨d4, d5⟩, d6, d7⟩, l6⟩, l10⟩ := b
  exact ⟨l1, l2, ⟨⟨d1, d2, d3, ⟨d4, by omega⟩, d6, d7⟩, l6⟩, l10⟩
/-- ENDFIN -/
def UEnf (s0 : CS) (r0 : RS) (AL : Als) (p q h w : Nat) (c : List Ent) : Prop := s0.a 15 p = 59 ∧ r0.a 21 q = 35 ∧ 1 ≤ w ∧ ∃ (a : Ent) (c0 : List Ent), c = a :: c0 ∧ a.k = 3 ∧ a.h = h ∧ a.u ≤ w + 1150 ∧ (r0.a 32 a.y).toInt = ((q + 1 : Nat) : Int) ∧ TYC s0 r0 AL a.u c0
theorem u_enf {N H n : Nat} (hN : 10000000000 ≤ N) {D : Nat → List Nat} {T : Int32 × CS} {s0 : CS} {r0 : RS} {nm : Nat → Nat → Prop} {AL : Als} {s : CS} {r : RS} {mu : Nat → Nat} {h p q w g : Nat} {c : List Ent} {x : Int32} {U : Int32 × RS} (hct : HCT nm AL) (pt : PTX N H D T s0 r0 nm AL s r mu h p q w g c x) (hq : (q : Int) < (r0.i 20).toInt) (u : UEnf s0 r0 AL p q h w c) (e : f_X12_run_122 N n r = some U) : NXTW N H D T s0 r0 nm AL n U := by
  obtain ⟨y1, y2, y2', a, c0, ec, ak, ah, y3, y4, y5⟩ := u
  obtain ⟨m, S, V, hn, ⟨e1, e2, e3, e4⟩, ⟨v1, v2, v3⟩, ⟨o1, o2⟩, oc, ⟨hp, hq3⟩, x1⟩ := pt_tick hN hct pt hq y2' e
  obtain ⟨bx, x0⟩ := bud_x pt
  have rf := pt.2.1
  have h21 : r.a 21 q = r0.a 21 q := by rw [rf.2 21 (by decide)]
  have mc := pt.2.2.1.1
  obtain ⟨-, ck, -, d22, hh⟩ := hct _ _ _ _ _ _ pt.2.2.2.2.1
  obtain ⟨t1, t2, t3⟩ := un_nx mc (by omega) (by omega)
  have dy := pt.2.2.1.2.1.ex ck t2 t3
  have tr := pt.2.2.1.2.2.ex t2 t3
  have gn := gcr_nn (g := g)
  have gn' := gpo_nn (g := g)
  have b6 := pt.2.2.2.2.2
  have fcp : FCP r0 AL a.y := by
    have al := pt.2.2.2.2.1
    rw [ec] at al
    exact ⟨p, q, h, w, g, a, c0, al, ak, rfl, y2⟩
  have ex := t1.exb dy tr
  rw [ec] at ex d22 hh ck b6
  obtain ⟨x72, ⟨xv, xm, xn⟩, ⟨⟨⟨d0, d1⟩, ⟨d2, d2'⟩, d3, ⟨d4, d5⟩, d6, d7⟩, op⟩, xt⟩ := id ex
  have hf : frs (a :: c0) = frs c0 + 1 := frs_up (by omega)
  have fp : fps (a :: c0) = fps c0 + 1152 := by
    show fps c0 + (if a.k = 0 then 2 else if a.k = 1 then 1460 else if a.k = 2 then 1154 else if a.k = 3 then 1152 else 0) = fps c0 + 1152
    rw [if_neg (by omega), if_neg (by omega), if_neg (by omega), if_pos ak]
  rw [fp] at b6
  obtain ⟨z1, z2⟩ := idx1 (r := rNx r) (k := c0.length) d2'
  have st := mc.2.2.1.1.2.2
  rcases d1 with ⟨k0, -⟩ | ⟨k0, -⟩ | ⟨k0, -⟩ | ⟨k3, a1, ⟨a2, a3⟩, ⟨f, a4, a5⟩, a6⟩ | ⟨k0, -⟩ | ⟨k0, -⟩
  · omega
  · omega
  · omega
  · have d67 : (s.i 67).toInt = (frs c0 : Int) + 1 := by
      have := d2
      rw [cNx_i (by decide), hf] at this
      omega
    have eS : S = cRs (cNx s) f := xi_59 (o1.trans y1) d67 (by omega) a4.1 e1
    -- the entry goes
    obtain ⟨A, hA⟩ : ∃ A, A = CS.setI (cNx s) 67 ((cNx s).i 67 - 1) := ⟨_, rfl⟩
    obtain ⟨R, hR⟩ : ∃ R, R = RS.setI (rNx r) 99 ((rNx r).i 99 - 1) := ⟨_, rfl⟩
    have sm : SAM (cNx s) A (rNx r) R := by
      rw [hA, hR]
      exact ⟨fun j q _ _ => ci_ne _ _ _ q, fun _ _ => rfl, ⟨rfl, rfl, rfl, rfl, rfl⟩, fun j _ _ q => ri_ne q, fun _ _ _ _ => rfl⟩
    have exA : EXB nm A R mu AL h c0 (-(gcr g)) := exb_sam ex (by omega) sm (xm.of (by rw [hA, ci_ne _ _ _ (by decide)]) (by rw [hA, ci_ne _ _ _ (by decide)]) (by rw [hA]; rfl) (by rw [hR, ri_ne (by decide)]) (by rw [hR, ri_ne (by decide)]) (by rw [hR]; rfl) (by rw [hR]; rfl)) (by rw [hR, ri_ne (by decide)]; exact a6) (by rw [hA, ci_at]; exact sub_n1 (by rw [d2, hf]; omega)) (by rw [hR, ri_at]; exact z1) (by rw [hA, ci_ne _ _ _ (by decide), d3, hR]; exact (hS_of rfl 8).symm)
    obtain ⟨W, hW⟩ : ∃ W, W = rRs (rNx r) := ⟨_, rfl⟩
    have Wi : ∀ j : Nat, j < 110 ∨ 114 < j → W.i j = R.i j := fun j hj => by
      rw [hW, hR]
      unfold rRs
      by_cases z : j = 99
      · rw [z, ri_at, ri_at]
      · rw [ri_ne z, ri_ne (by omega), ri_ne (by omega), ri_ne (by omega), ri_ne (by omega), ri_ne (by omega), ri_ne z]
    have Wa : W.a = R.a := by
      rw [hW, hR]
      rfl
    have Wc : W.i 110 = (rNx r).a 105 c0.length ∧ W.i 111 = (rNx r).a 106 c0.length ∧ W.i 112 = (rNx r).a 107 c0.length ∧ W.i 113 = (rNx r).a 108 c0.length ∧ W.i 114 = (rNx r).a 109 c0.length := by
      rw [hW]
      unfold rRs
      rw [z2]
      refine ⟨?_, ?_, ?_, ?_, ?_⟩
      · rw [ri_ne (by decide), ri_ne (by decide), ri_ne (by decide), ri_ne (by decide), ri_ne (by decide), ri_at]
      · rw [ri_ne (by decide), ri_ne (by decide), ri_ne (by decide), ri_ne (by decide), ri_at]
      · rw [ri_ne (by decide), ri_ne (by decide), ri_ne (by decide), ri_at]
      · rw [ri_ne (by decide), ri_ne (by decide), ri_at]
      · rw [ri_ne (by decide), ri_at]
    have Si : ∀ j : Nat, j ≠ 73 → j ≠ 74 → j ≠ 75 → S.i j = A.i j := fun j q1 q2 q3 => by
      rw [eS, hA]
      unfold cRs
      rw [ci_ne _ _ _ q3, ci_ne _ _ _ q2, ci_ne _ _ _ q1, ci_setW]
    have Sc : S.i 73 = (cNx s).o f 5 ∧ S.i 74 = (cNx s).o f 6 ∧ S.i 75 = (cNx s).o f 7 ∧ S.w = (cNx s).ot f := by
      rw [eS]
      unfold cRs
      refine ⟨?_, ?_, ?_, rfl⟩
      · rw [ci_ne _ _ _ (by decide), ci_ne _ _ _ (by decide), ci_at]
      · rw [ci_ne _ _ _ (by decide), ci_at]
      · rw [ci_at]
    have Sr : S.a = A.a ∧ S.r = A.r ∧ S.o = A.o ∧ S.ot = A.ot ∧ S.oa = A.oa := by
      rw [eS, hA]
      exact ⟨rfl, rfl, rfl, rfl, rfl⟩
    have wpl : WPL A S R W := ⟨fun j _ q1 q2 q3 => Si j q1 q2 q3, Sr.1, ⟨Sr.2.1, Sr.2.2.1, Sr.2.2.2.1, Sr.2.2.2.2⟩, fun j _ hj => Wi j hj, Wa⟩
    have exS : EXB nm S W mu AL h c0 0 := (exA.wpl wpl).n0 (by omega)
    have w80 : W.i 80 = r.i 80 := by rw [Wi 80 (by omega), hR, ri_ne (by decide), rNx_i (by decide)]
    have w92 : (W.i 92).toInt = ((q + 1 : Nat) : Int) := by
      rw [Wi 92 (by omega), hR, ri_ne (by decide)]
      exact t1.1.2.2
    have wr : RFX r0 W := rf.tr (t3.rfx.tr ⟨fun j hj => by rw [Wi j (by omega), hR, ri_ne (by omega)], fun k _ => by rw [Wa, hR]; rfl⟩)
    have tlvW : ∀ b : Nat, TLV (cNx s) (rNx r) mu b → TLV S W mu b := fun b t => wpl.tlv (sm.tlv t)
    have oo : (cNx s).o = s.o := rfl
    have g1 := xp_35 (r := rNx r) (by rw [mc.clq]; exact h21.trans y2) v1
    rw [z2, ← hW] at g1
    have cs := e3 exS.1
    have a17 : S.a 17 = s0.a 17 := cs.2.1.2.1 17 (by decide)
    have ecS : cTg S = cTg s0 := by
      funext t
      unfold cTg
      rw [a17]
    have sa17 : (cNx s).a 17 = s0.a 17 := pt.1.2.1.2.1 17 (by decide)
    have ec2 : cTg (cNx s) = cTg s0 := by
      funext t
      unfold cTg
      rw [sa17]
    have fcp' : FCP (rNx r) AL a.y := by
      unfold FCP at *
      have z : (rNx r).a 21 = r0.a 21 := rf.2 21 (by decide)
      rw [z]
      exact fcp
    clear hA hR hW
    rcases a5 with ⟨f1, f2, ⟨f3, f4⟩, f5⟩ | f1
    · -- it goes on behind the try
      rcases g1 with ⟨-, eV⟩ | ⟨z, -⟩
      · obtain ⟨p', q', w', f6, f7, f8, f9⟩ := f5 fcp'
        have q1 : q' = q + 1 := by
          have z : (rNx r).a 32 = r0.a 32 := rf.2 32 (by decide)
          rw [z, y4] at f7
          omega
        rw [← ah] at exS
        obtain ⟨S3, c3, sy⟩ := ex_arr (p := p') (q := q') hN cs (by omega) (by omega) exS (by rw [Sc.1]; exact f1) (by rw [Sc.2.2.1]; exact f3) (by rw [Sc.2.2.1, ecS, ← ec2]; exact f6) (by rw [q1]; exact w92)
        rw [← eV] at sy w80
        refine Or.inl ⟨m, S3, V, mu, a.h, p', q', w', 0, c0, x + 1 + 1, by omega, ⟨c3, v3, sy, BTP.no (by decide), f8, ?_⟩, v2⟩
        rw [w80, ad1 (by omega) (by omega), x1]
        show x.toInt + 1 + 1 + (fps c0 : Int) + w' + 0 ≤ _
        omega
      · exact absurd f2 z
    · -- it goes on as it was left
      have wy := f1 fcp'
      have l : LVR nm S W mu AL h c0 0 a.u := by
        refine ⟨exS.1, ⟨exS.2.1.1.mvh, exS.2.1.2⟩, exS.2.2.1, ⟨by decide, fun _ => rfl⟩, ?_, exS.2.2.2⟩
        rw [Sc.1, Sc.2.1, Sc.2.2.1, Sc.2.2.2, Wc.1, Wc.2.1, Wc.2.2.1, Wc.2.2.2.1, Wc.2.2.2.2]
        have q21 : W.a 21 = (rNx r).a 21 := by rw [wr.2 21 (by decide)]; exact (rf.2 21 (by decide)).symm
        have q31 : W.a 31 = (rNx r).a 31 := by rw [wr.2 31 (by decide)]; exact (rf.2 31 (by decide)).symm
        have q23 : W.a 23 = (rNx r).a 23 := by rw [wr.2 23 (by decide)]; exact (rf.2 23 (by decide)).symm
        have wy' := wy.of (S := S) (R := W) (nu := mu) (by rw [a17, sa17]) q21 q31 q23 (fun b _ t => ⟨tlvW b t, rfl⟩)
        rw [ah] at wy'
        exact wy'
      rcases g1 with ⟨z, -⟩ | ⟨-, lv⟩
      · have q := wy.hw
        rw [z] at q
        rcases wy with ⟨k1, k2, -⟩ | ⟨k1, k2, -⟩ | ⟨k1, k2, -⟩ | ⟨k1, k2, -⟩ <;> rw [z] at k2 <;> exact absurd k2 (by decide)
      · exact lv_unit hN hct pt (by omega) v2 v3 cs wr w80 ⟨ck.2.2, by omega, fun e he => hh e (List.mem_cons_of_mem _ he)⟩ y5 l (by rw [x1, ec, fp]; omega) lv
  · omega
  · omega
