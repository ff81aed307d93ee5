/-! both machines: units that throw -/
theorem lvr_ra {N H : Nat} (hN : 1000 ≤ N) {nm : Nat → Nat → Prop} {A : CS} {R W : RS} {Q : Unit × CS} {mu : Nat → Nat} {AL : Als} {h p q u : Nat} {c : List Ent} {n0 : Int} {x1 x2 : Int32} (hr : REFS A) (hm : ROOM H A) (d22 : frs c ≤ 22) (m : MCO nm A R h p q) (d : DYN A R mu AL c n0) (hn : n0 ≤ 0) (t : TLR A R) (k0 : 0 ≤ x1.toInt) (k1 : x1.toInt < (R.i 3).toInt) (e : f_X3_raise N A x1 x2 = some Q) (g : f_X12_raise N R x1 x2 = some W) : ∃ nu : Nat → Nat, LVR nm Q.2 W nu AL h c 1 u ∧ RFX R W ∧ W.i 80 = R.i 80 ∧ Q.2.i 72 = -1 := by
  obtain ⟨⟨⟨m1, m2⟩, m3, m4⟩, m5, m6, m7⟩ := m
  obtain ⟨d0, o⟩ := d
  obtain ⟨d1, d2, d3, ⟨d4, d5⟩, d6, d7⟩ := id d0
  have st := m6.1.2.2
  obtain ⟨nu, b, f2, f3, ⟨f4, f5, f6⟩, ⟨f7, ⟨f8, f9⟩, f10, f11⟩, f12, ⟨f13, f14⟩, f15⟩ := ra_both (c := c) (m := (R.i 97).toInt) hN hr hm d2.1 d22 d6 d4 (by omega) k0 k1 e g
  have rf : RFX R W := ⟨fun j hj => f12 j (by omega) (by omega) (by omega), fun k hk => f15 k (by omega) (by omega) (by omega)⟩
  have w80 : W.i 80 = R.i 80 := f12 80 (by decide) (by decide) (by decide)
  have q72 : Q.2.i 72 = -1 := (f7 72 (by decide) (by decide) (by decide)).trans m1
  refine ⟨nu, ⟨q72, ⟨m5.mvh.of (f7 65 (by decide) (by decide) (by decide)) (by rw [f10]) (f12 93 (by decide) (by decide) (by decide)) (f15 94 (by decide) (by decide) (by decide)) (fun z => absurd f8 z), m6.of (f7 69 (by decide) (by decide) (by decide)) (f7 70 (by decide) (by decide) (by decide)) (by rw [f10]) w80 (f12 81 (by decide) (by decide) (by decide)) (f15 82 (by decide) (by decide) (by decide)) (f15 83 (by decide) (by decide) (by decide)), fun k l hk => ?_⟩, ⟨d0.of f2 (f7 67 (by decide) (by decide) (by decide)) (f7 71 (by decide) (by decide) (by decide)) (f12 97 (by decide) (by decide) (by decide)) (f12 99 (by decide) (by decide) (by decide)) (f12 115 (by decide) (by decide) (by decide)) (f15 91 (by decide) (by decide) (by decide)) f3 (by rw [w80]; omega), ?_⟩, ⟨by decide, fun z => absurd f8 z⟩, Or.inr (Or.inr (Or.inr ⟨f8, f13, f9, b, f4, f5, f6⟩)), t.of (fun j hj => f7 j (by omega) (by omega) (by omega)) (fun k _ => by rw [f10]) rf⟩, rf, w80, q72⟩
  · rw [f10, f15 84 (by decide) (by decide) (by decide)]
    exact m7 k l hk
  · obtain ⟨o1, o2, o3, o4, o5, o6⟩ := o
    unfold OPW
    rw [f7 68 (by decide) (by decide) (by decide), f12 95 (by decide) (by decide) (by decide), f10, f15 96 (by decide) (by decide) (by decide)]
    exact ⟨o1, o2, o3, o4, o5, o6.of (fun k _ => by rw [f15 103 (by decide) (by decide) (by decide)])⟩
theorem PV.cnx (s : CS) : PV s (cNx s) := (PV.rf s).i 66 _ (by decide)
theorem PV.cpo {s S : CS} (h : PV s S) : PV s (cPo S) := h.i 65 _ (by decide)
theorem PV.cpu {s S : CS} (h : PV s S) (v : Int32) : PV s (cPu S v) := (h.a 60 _ (by decide)).i 65 _ (by decide)
/-- THROW, RAISE -/
def URai (s0 : CS) (r0 : RS) (AL : Als) (p q h w : Nat) (c : List Ent) : Prop := ∃ h' u : Nat, h = h' + 1 ∧ u + 2 ≤ w ∧ (∀ e ∈ c, e.h ≤ h') ∧ TYC s0 r0 AL u c ∧ (s0.a 15 p = 63 ∧ r0.a 21 q = 19 ∧ s0.a 16 p = r0.a 22 q ∧ 0 ≤ (s0.a 16 p).toInt ∧ (s0.a 16 p).toInt < (r0.i 3).toInt)
theorem u_rai {N H n : Nat} (hN : 10000000000 ≤ N) {D : Nat → List Nat} {T : Int32 × CS} {s0 : CS} {r0 : RS} {nm : Nat → Nat → Prop} {AL : Als} {s : CS} {r : RS} {mu : Nat → Nat} {h p q w g : Nat} {c : List Ent} {x : Int32} {U : Int32 × RS} (hct : HCT nm AL) (pt : PTX N H D T s0 r0 nm AL s r mu h p q w g c x) (hq : (q : Int) < (r0.i 20).toInt) (u : URai s0 r0 AL p q h w c) (e : f_X12_run_122 N n r = some U) : NXTW N H D T s0 r0 nm AL n U := by
  obtain ⟨h', u, eh, u1, u2, u3, y1, y2, y3, y4, y5⟩ := u
  obtain ⟨m, S, V, hn, ⟨e1, e2, e3, e4⟩, ⟨v1, v2, v3⟩, ⟨o1, o2⟩, oc, ⟨hp, hq3⟩, x1⟩ := pt_tick hN hct pt hq (by omega) e
  have rf := pt.2.1
  have h21 : r.a 21 q = r0.a 21 q := by rw [rf.2 21 (by decide)]
  have h22 : r.a 22 q = r0.a 22 q := by rw [rf.2 22 (by decide)]
  have mc := pt.2.2.1.1
  rw [eh] at mc
  obtain ⟨-, ck, -, d22, -⟩ := hct _ _ _ _ _ _ pt.2.2.2.2.1
  obtain ⟨t1, t2, t3, t4⟩ := un_tak mc (by omega) (by omega)
  have tp : rTp (rNx r) = cTp s := t4.symm
  have dy := pt.2.2.1.2.1.ex ck t2 t3
  have tr := pt.2.2.1.2.2.ex t2 t3
  have gn := gcr_nn (g := g)
  have gn' := gpo_nn (g := g)
  have r1 : f_X3_raise N (cPo (cNx s)) (cAr s) (cTp s) = some ((), S) := xi_63 (o1.trans y1) e1
  obtain ⟨W, w1, lv⟩ := xa_19 (r := rNx r) (by rw [mc.clq]; exact h21.trans y2) v1
  have ex : (rNx r).a 22 (r.i 92).toNatClampNeg = cAr s := by
    rw [mc.clq, o2, y3]
    exact h22
  rw [ex, tp] at w1
  have pv : PV s (cPo (cNx s)) := (PV.cnx s).cpo
  have i3 : (rPo (rNx r)).i 3 = r0.i 3 := by
    rw [rPo_i (by decide), rNx_i (by decide)]
    exact rf.1 3 (by decide)
  obtain ⟨nu, l, lr, l80, l72⟩ := lvr_ra (u := u) (by omega) (pv.refs pt.1.1.1) (pv.room pt.1.1.2.1) d22 t1 dy (by omega) tr (by rw [o2]; exact y4) (by rw [o2, i3]; exact y5) r1 w1
  exact lv_unit hN hct pt (by omega) v2 v3 (e3 l72) (rf.tr (t3.rfx.tr lr)) (l80.trans (by rw [rPo_i (by decide), rNx_i (by decide)])) ⟨ck, d22, u2⟩ u3 l (by omega) lv
/-- PUSH 0, THROW against RAISE0 -/
def URa0 (s0 : CS) (r0 : RS) (AL : Als) (p q h w : Nat) (c : List Ent) : Prop := ∃ u : Nat, u + 3 ≤ w ∧ h < 600 ∧ TYC s0 r0 AL u c ∧ (s0.a 15 p = 0 ∧ s0.a 16 p = 0 ∧ s0.a 15 (p + 1) = 63 ∧ p + 1 < 1200 ∧ r0.a 21 q = 20 ∧ s0.a 16 (p + 1) = r0.a 22 q ∧ 0 ≤ (s0.a 16 (p + 1)).toInt ∧ (s0.a 16 (p + 1)).toInt < (r0.i 3).toInt)
theorem u_ra0 {N H n : Nat} (hN : 10000000000 ≤ N) {D : Nat → List Nat} {T : Int32 × CS} {s0 : CS} {r0 : RS} {nm : Nat → Nat → Prop} {AL : Als} {s : CS} {r : RS} {mu : Nat → Nat} {h p q w g : Nat} {c : List Ent} {x : Int32} {U : Int32 × RS} (hct : HCT nm AL) (pt : PTX N H D T s0 r0 nm AL s r mu h p q w g c x) (hq : (q : Int) < (r0.i 20).toInt) (u : URa0 s0 r0 AL p q h w c) (e : f_X12_run_122 N n r = some U) : NXTW N H D T s0 r0 nm AL n U := by
  obtain ⟨u, u1, h6, u3, y1, y2, y3, y3', y4, y5, y6, y7⟩ := u
  obtain ⟨m, S, V, hn, ⟨e1, e2, e3, e4⟩, ⟨v1, v2, v3⟩, ⟨o1, o2⟩, oc, ⟨hp, hq3⟩, x1⟩ := pt_tick hN hct pt hq (by omega) e
  obtain ⟨bx, x0⟩ := bud_x pt
  have rf := pt.2.1
  have h21 : r.a 21 q = r0.a 21 q := by rw [rf.2 21 (by decide)]
  have h22 : r.a 22 q = r0.a 22 q := by rw [rf.2 22 (by decide)]
  have mc := pt.2.2.1.1
  obtain ⟨-, ck, -, d22, hh⟩ := hct _ _ _ _ _ _ pt.2.2.2.2.1
  obtain ⟨t1, t2, t3⟩ := un_nx mc (by omega) (by omega)
  have gn := gcr_nn (g := g)
  have gn' := gpo_nn (g := g)
  have eS : S = cPu (cNx s) 0 := by
    have := xi_0 (o1.trans y1) e1
    rw [o2, y2] at this
    exact this
  have q65 : ((cNx s).i 65).toInt = (h : Int) := by
    rw [cNx_i (by decide)]
    exact mc.2.1.1.1
  have S65 : (S.i 65).toInt = (h : Int) + 1 := by
    rw [eS]
    show ((CS.setI (CS.putA (cNx s) 60 (gPut ((cNx s).a 60) 600 ((cNx s).i 65) 0)) 65 ((cNx s).i 65 + 1)).i 65).toInt = _
    rw [ci_at, ad1 (by omega) (by omega), q65]
  have S66 : (S.i 66).toInt = ((p + 1 : Nat) : Int) := by
    rw [eS, cPu_i (by decide)]
    exact cNx_66 mc.1.2.1 (by omega)
  have S72 : S.i 72 = -1 := by
    rw [eS, cPu_i (by decide)]
    exact t1.1.1.1
  have S73 : S.i 73 = 0 := by
    rw [eS, cPu_i (by decide)]
    exact t1.1.1.2
  obtain ⟨S2, f1, f2, -, ⟨f4, f5⟩, f6, x2⟩ := tick2 hN (e3 S72) S72 S73 S66 y3' (by omega)
  have r1 : f_X3_raise N (cPo (cNx S)) (cAr S) (cTp S) = some ((), S2) := xi_63 (f4.trans y3) f1
  have ct : cTp S = 0 := by
    rw [cTp_at S65 h6, eS]
    exact cPu_top q65 h6
  rw [ct] at r1
  obtain ⟨W, w1, lv⟩ := xa_20 (r := rNx r) (by rw [mc.clq]; exact h21.trans y4) v1
  have ex : (rNx r).a 22 (r.i 92).toNatClampNeg = cAr S := by
    rw [mc.clq, f5, y5]
    exact h22
  rw [ex] at w1
  have Ai : ∀ j : Nat, j ≠ 66 → (cPo (cNx S)).i j = (cNx s).i j := fun j a => by
    by_cases b : j = 65
    · rw [b]
      exact Int32.toInt_inj.mp (by
        rw [q65]
        show ((CS.setI (cNx S) 65 ((cNx S).i 65 - 1)).i 65).toInt = _
        rw [ci_at]
        exact sub_n1 (by rw [cNx_i (by decide)]; exact S65))
    · rw [cPo_i b, cNx_i a, eS, cPu_i b]
  obtain ⟨a1, a2⟩ := un_pc (S := cPo (cNx S)) (p' := p + 2) t1 Ai (fun k a => by
    show S.a k = (cNx s).a k
    rw [eS, cPu_a a]) (fun k a => by
    show S.a 60 k = (cNx s).a 60 k
    rw [eS]
    show gPut ((cNx s).a 60) 600 ((cNx s).i 65) 0 k = (cNx s).a 60 k
    unfold gPut
    rw [if_pos ⟨by omega, by omega⟩, cl_nat q65]
    exact if_neg (by omega)) (by rw [eS]; exact ⟨rfl, rfl, rfl, rfl, rfl⟩) (by rw [cPo_i (by decide)]; exact cNx_66 S66 (by omega))
  have ec := t2.tr a2
  have dy := pt.2.2.1.2.1.ex ck ec t3
  have tr := pt.2.2.1.2.2.ex ec t3
  have pv : PV s (cPo (cNx S)) := by
    rw [eS]
    exact (((PV.cnx s).cpu 0).i 66 _ (by decide)).cpo
  have i3 : (rNx r).i 3 = r0.i 3 := by
    rw [rNx_i (by decide)]
    exact rf.1 3 (by decide)
  obtain ⟨nu, l, lr, l80, l72⟩ := lvr_ra (u := u) (by omega) (pv.refs pt.1.1.1) (pv.room pt.1.1.2.1) d22 a1 dy (by omega) tr (by rw [f5]; exact y6) (by rw [f5, i3]; exact y7) r1 w1
  exact lv_unit hN hct pt (by omega) v2 v3 (f2 l72) (rf.tr (t3.rfx.tr lr)) (l80.trans (rNx_i (by decide))) ⟨ck, d22, hh⟩ u3 l (by omega) lv
/-- / and % -/
theorem xi_dv {N : Nat} {s : CS} {R : Unit × CS} {o : Int32} (h : cOp s = o) (ho : o = 10 ∨ o = 11) (e : f_X3_instruction N s = some R) : (cTp s = 0 ∧ ∃ Q : Unit × CS, f_X3_raise N (cPo (cPo (cNx s))) 2 0 = some Q ∧ R.2 = Q.2) ∨ (¬ cTp s = 0 ∧ R.2 = cPu (cPo (cPo (cNx s))) (if o = 10 then cTp (cPo s) / cTp s else cTp (cPo s) - cTp (cPo s) / cTp s * cTp s)) := by
  have z := xi_com (by rw [h]; rcases ho with y | y <;> rw [y] <;> decide) (by rw [h]; rcases ho with y | y <;> rw [y] <;> decide) e
  rw [h] at z
  unfold f_X3_combine at z
  rw [e_cPo, ob_some, e_cPo, ob_some, if_pos (by rcases ho with y | y <;> rw [y] <;> decide), if_neg (by rcases ho with y | y <;> rw [y] <;> decide), if_neg (by rcases ho with y | y <;> rw [y] <;> decide), if_neg (by rcases ho with y | y <;> rw [y] <;> decide)] at z
  obtain ⟨A, a1, a2⟩ := hf_bind z
  unfold f_X3_divide at a1
  have eA : R.2 = A.2 := by rw [← Option.some.inj a2]
  have t1 : cTp (cNx s) = cTp s := rfl
  have t2 : cTp (cPo (cNx s)) = cTp (cPo s) := rfl
  rw [eA]
  by_cases c : cTp s = 0
  · left
    have a3 := (if_pos (show cTp (cNx s) = 0 from c)).symm.trans a1
    obtain ⟨Q, q1, q2⟩ := hf_bind a3
    exact ⟨c, Q, q1, by rw [← Option.some.inj q2]⟩
  · right
    refine ⟨c, ?_⟩
    have a3 := (if_neg (show ¬ cTp (cNx s) = 0 from c)).symm.trans a1
    rcases ho with y | y
    · have a4 := (if_pos y).symm.trans a3
      have a5 := (if_neg (show ¬ cTp (cNx s) = 0 from c)).symm.trans a4
      rw [e_cPu, ob_some] at a5
      rw [if_pos y, ← Option.some.inj a5]
      rfl
    · have a4 := (if_neg (show ¬ o = 10 by rw [y]; decide)).symm.trans a3
      have a5 := (if_neg (show ¬ cTp (cNx s) = 0 from c)).symm.trans a4
      rw [e_cPu, ob_some] at a5
      rw [if_neg (by rw [y]; decide), ← Option.some.inj a5]
      rfl
theorem xa_dv {N : Nat} {r V : RS} {x o : Int32} (h : r.a 21 x.toNatClampNeg = 8) (h2 : r.a 22 x.toNatClampNeg = o) (ho : o = 47 ∨ o = 37) (g : f_X12_act N r x = some V) : (rTp r = 0 ∧ ∃ W : RS, f_X12_raise N (rPo (rPo r)) 2 0 = some W ∧ f_X12_leave N W = some V) ∨ (¬ rTp r = 0 ∧ V = rPu (rPo (rPo r)) (if o = 47 then rTp (rPo r) / rTp r else rTp (rPo r) - rTp (rPo r) / rTp r * rTp r)) := by
  unfold f_X12_act at g
  obtain ⟨-, g⟩ := hf_ite g
  rw [h] at g
  rw [if_neg (by decide), if_neg (by decide), if_neg (by decide), if_neg (by decide), if_neg (by decide), if_neg (by decide), if_neg (by decide), if_pos rfl, h2] at g
  obtain ⟨a, ga, go⟩ := hf_bind g
  obtain ⟨b, gb, go⟩ := hf_bind go
  rw [e_rPo ga] at gb go
  have eb : b = (rTp (rPo r), rPo (rPo r)) := e_rPo gb
  rw [eb] at go
  have g212 : f_X12_act_212 N (rPo (rPo r)) o (rTp r) (rTp (rPo r)) = some V := by
    rcases ho with y | y
    · rw [if_pos y] at go
      exact go
    · rw [if_neg (by rw [y]; decide), if_pos y] at go
      exact go
  unfold f_X12_act_212 f_X12_act_229 at g212
  by_cases c : rTp r = 0
  · left
    have g3 := (if_pos c).symm.trans g212
    obtain ⟨W, w1, w2⟩ := hf_bind g3
    obtain ⟨W2, w3, w4⟩ := hf_bind w2
    refine ⟨c, W, w1, ?_⟩
    rw [w3]
    exact w4
  · right
    refine ⟨c, ?_⟩
    have g3 := (if_neg c).symm.trans g212
    obtain ⟨w, w1, w2⟩ := hf_bind g3
    rw [ob_id] at w2
    unfold f_X12_compute at w1
    rcases ho with y | y
    · rw [if_neg (by rw [y]; decide), if_neg (by rw [y]; decide), if_neg (by rw [y]; decide), if_neg (by rw [y]; decide), if_pos y] at w1
      have w3 := (if_neg c).symm.trans w1
      have e3 := (Option.some.inj w3).symm
      rw [e3] at w2
      rw [if_pos y]
      exact e_rPu w2
    · rw [if_pos y] at w1
      have w3 := (if_neg c).symm.trans w1
      have e3 := (Option.some.inj w3).symm
      rw [e3] at w2
      rw [if_neg (by rw [y]; decide)]
      exact e_rPu w2
def UDiv (s0 : CS) (r0 : RS) (AL : Als) (p q h w : Nat) (c : List Ent) : Prop := ∃ h' u : Nat, h = h' + 1 + 1 ∧ u + 2 ≤ w ∧ (∀ e ∈ c, e.h ≤ h') ∧ TYC s0 r0 AL u c ∧ (r0.a 21 q = 8 ∧ ((s0.a 15 p = 10 ∧ r0.a 22 q = 47) ∨ (s0.a 15 p = 11 ∧ r0.a 22 q = 37))) ∧ NXW AL (p + 1) (q + 1) (h' + 1) w 1 0 c
theorem u_div {N H n : Nat} (hN : 10000000000 ≤ N) {D : Nat → List Nat} {T : Int32 × CS} {s0 : CS} {r0 : RS} {nm : Nat → Nat → Prop} {AL : Als} {s : CS} {r : RS} {mu : Nat → Nat} {h p q w g : Nat} {c : List Ent} {x : Int32} {U : Int32 × RS} (hct : HCT nm AL) (pt : PTX N H D T s0 r0 nm AL s r mu h p q w g c x) (hq : (q : Int) < (r0.i 20).toInt) (u : UDiv s0 r0 AL p q h w c) (e : f_X12_run_122 N n r = some U) : NXTW N H D T s0 r0 nm AL n U := by
  obtain ⟨h', u, eh, u1, u2, u3, ⟨y1, y2⟩, w', u5, u6⟩ := u
  obtain ⟨m, S, V, hn, ⟨e1, e2, e3, e4⟩, ⟨v1, v2, v3⟩, ⟨o1, o2⟩, oc, ⟨hp, hq3⟩, x1⟩ := pt_tick hN hct pt hq (by omega) e
  have rf := pt.2.1
  have h21 : r.a 21 q = r0.a 21 q := by rw [rf.2 21 (by decide)]
  have h22 : r.a 22 q = r0.a 22 q := by rw [rf.2 22 (by decide)]
  have mc := pt.2.2.1.1
  rw [eh] at mc
  obtain ⟨-, ck, -, d22, -⟩ := hct _ _ _ _ _ _ pt.2.2.2.2.1
  obtain ⟨b1, b2⟩ := un_tp2 mc (by omega) (by omega)
  have gn := gcr_nn (g := g)
  have gn' := gpo_nn (g := g)
  have tp1 : rTp (rNx r) = cTp s := b1.symm
  have tp2 : rTp (rPo (rNx r)) = cTp (cPo s) := b2.symm
  have key : ∃ o o' : Int32, cOp s = o ∧ (o = 10 ∨ o = 11) ∧ r.a 22 q = o' ∧ (o' = 47 ∨ o' = 37) ∧ (o = 10 ↔ o' = 47) := by
    rcases y2 with ⟨a, b⟩ | ⟨a, b⟩
    · exact ⟨10, 47, o1.trans a, Or.inl rfl, h22.trans b, Or.inl rfl, by decide⟩
    · exact ⟨11, 37, o1.trans a, Or.inr rfl, h22.trans b, Or.inr rfl, by decide⟩
  obtain ⟨o, o', k1, k2, k3, k4, k5⟩ := key
  have ga := xa_dv (r := rNx r) (o := o') (by rw [mc.clq]; exact h21.trans y1) (by rw [mc.clq]; exact k3) k4 v1
  rw [tp1, tp2] at ga
  rcases xi_dv k1 k2 e1 with ⟨c0, Q, q1, q2⟩ | ⟨c0, q2⟩
  · rcases ga with ⟨-, W, w1, lv⟩ | ⟨c1, -⟩
    · obtain ⟨t1, t2, t3, -⟩ := un_tak mc (by omega) (by omega)
      have v' := t1.2.1.pop
      have a1 : EXC nm (cPo (cNx s)) (cPo (cPo (cNx s))) := ⟨fun j h1 _ _ _ => cPo_i h1, fun _ _ _ _ => rfl, ⟨rfl, rfl, rfl, rfl, rfl⟩, fun _ _ => rfl⟩
      have a2 : EXV nm (rPo (rNx r)) (rPo (rPo (rNx r))) := ⟨fun j _ _ _ h4 => rPo_i h4, fun _ _ _ _ _ => rfl, fun _ _ => rfl, le_80 (rPo_i (by decide))⟩
      have tt : MCO nm (cPo (cPo (cNx s))) (rPo (rPo (rNx r))) h' (p + 1) (q + 1) := un_vs t1 v' a1 a2 rfl rfl (cPo_i (by decide)) (rPo_i (by decide)) (t1.2.2.1.of (cPo_i (by decide)) (cPo_i (by decide)) rfl (rPo_i (by decide)) (rPo_i (by decide)) rfl rfl)
      have ec := t2.tr a1
      have ev := t3.tr a2
      have dy := pt.2.2.1.2.1.ex ck ec ev
      have tr := pt.2.2.1.2.2.ex ec ev
      have pv : PV s (cPo (cPo (cNx s))) := (PV.cnx s).cpo.cpo
      have z2 : (2 : Int32).toInt = 2 := by decide
      have z4 := le_int (pt.2.2.1.2.2.2.2.2.1.1)
      have e44 : (4 : Int32).toInt = 4 := by decide
      have i3 : (rPo (rPo (rNx r))).i 3 = r.i 3 := by rw [rPo_i (by decide), rPo_i (by decide), rNx_i (by decide)]
      obtain ⟨nu, l, lr, l80, l72⟩ := lvr_ra (u := u) (by omega) (pv.refs pt.1.1.1) (pv.room pt.1.1.2.1) d22 tt dy (by omega) tr (by rw [z2]; decide) (by rw [z2, i3]; omega) q1 w1
      rw [← q2] at l l72
      exact lv_unit hN hct pt (by omega) v2 v3 (e3 l72) (rf.tr (ev.rfx.tr lr)) (l80.trans (by rw [rPo_i (by decide), rPo_i (by decide), rNx_i (by decide)])) ⟨ck, d22, u2⟩ u3 l (by omega) lv
    · exact absurd c0 c1
  · rcases ga with ⟨c1, -⟩ | ⟨-, gV⟩
    · exact absurd c1 c0
    · have ev : (if o = 10 then cTp (cPo s) / cTp s else cTp (cPo s) - cTp (cPo s) / cTp s * cTp s) = (if o' = 47 then cTp (cPo s) / cTp s else cTp (cPo s) - cTp (cPo s) / cTp s * cTp s) := by
        by_cases z : o = 10
        · rw [if_pos z, if_pos (k5.mp z)]
        · rw [if_neg z, if_neg (fun y => z (k5.mpr y))]
      rw [← ev] at gV
      obtain ⟨m1, m2, m3⟩ := un_bin mc (by omega) (by omega) (if o = 10 then cTp (cPo s) / cTp s else cTp (cPo s) - cTp (cPo s) / cTp s * cTp s)
      have q2' : S = cPu (cPo (cPo (cNx s))) (if o = 10 then cTp (cPo s) / cTp s else cTp (cPo s) - cTp (cPo s) / cTp s * cTp s) := q2
      rw [← q2'] at m1 m2
      rw [← gV] at m1 m3
      exact pl_fin hct pt hn x1 e3 v3 v2 m1 m2 m3 u6 u5 (by decide) (BTP.no (by decide))
