section
/-! both machines: units that throw -/
theorem lvr_ra {N H : Nat} (hN : 1000 ≤ N) {nm : Nat → Nat → Prop} {A : CS} {R W : RS} {Q : Unit × CS} {mu : Nat → Nat} {AL : Als} {h p q u : Nat} {c : List Ent} {n0 : Int} {x1 x2 : Int32} (hr : REFS A) (hm : ROOM H A) (d22 : frs c ≤ 22) (m : MCO nm A R h p q) (d : DYN A R mu AL c n0) (hn : n0 ≤ 0) (t : TLR A R) (k0 : 0 ≤ x1.toInt) (k1 : x1.toInt < (R.i 3).toInt) (e : f_X3_raise N A x1 x2 = some Q) (g : f_X12_raise N R x1 x2 = some W) : ∃ nu : Nat → Nat, LVR nm Q.2 W nu AL h c 1 u ∧ RFX R W ∧ W.i 80 = R.i 80 ∧ Q.2.i 72 = -1 := by
  obtain ⟨⟨⟨m1, m2⟩, m3, m4⟩, m5, m6, m7⟩ := m
  obtain ⟨d0, o⟩ := d
  obtain ⟨d1, d2, d3, ⟨d4, d5⟩, d6, d7⟩ := id d0
  have st := m6.1.2.2
  obtain ⟨nu, b, f2, f3, ⟨f4, f5, f6⟩, ⟨f7, ⟨f8, f9⟩, f10, f11⟩, f12, ⟨f13, f14⟩, f15⟩ := ra_both (c := c) (m := (R.i 97).toInt) hN hr hm d2.1 d22 d6 d4 (by omega) k0 k1 e g
  have rf : RFX R W := ⟨fun j hj => f12 j (by omega) (by omega) (by omega), fun k hk => f15 k (by omega) (by omega) (by omega)⟩
  have w80 : W.i 80 = R.i 80 := f12 80 (by decide) (by decide) (by decide)
  have q72 : Q.2.i 72 = -1 := (f7 72 (by decide) (by decide) (by decide)).trans m1
  refine ⟨nu, ⟨q72, ⟨m5.mvh.of (f7 65 (by decide) (by decide) (by decide)) (by rw [f10]) (f12 93 (by decide) (by decide) (by decide)) (f15 94 (by decide) (by decide) (by decide)) (fun z => absurd f8 z), m6.of (f7 69 (by decide) (by decide) (by decide)) (f7 70 (by decide) (by decide) (by decide)) (by rw [f10]) w80 (f12 81 (by decide) (by decide) (by decide)) (f15 82 (by decide) (by decide) (by decide)) (f15 83 (by decide) (by decide) (by decide)), fun k l hk => ?_⟩, ⟨d0.of f2 (f7 67 (by decide) (by decide) (by decide)) (f7 71 (by decide) (by decide) (by decide)) (f12 97 (by decide) (by decide) (by decide)) (f12 99 (by decide) (by decide) (by decide)) (f12 115 (by decide) (by decide) (by decide)) (f15 91 (by decide) (by decide) (by decide)) f3 (by rw [w80]; omega), ?_⟩, ⟨by decide, fun z => absurd f8 z⟩, Or.inr (Or.inr (Or.inr ⟨f8, f13, f9, b, f4, f5, f6⟩)), t.of (fun j hj => f7 j (by omega) (by omega) (by omega)) (fun k _ => by rw [f10]) rf⟩, rf, w80, q72⟩
  · rw [f10, f15 84 (by decide) (by decide) (by decide)]
    exact m7 k l hk
  · obtain ⟨o1, o2, o3, o4, o5, o6⟩ := o
    unfold OPW
    rw [f7 68 (by decide) (by decide) (by decide), f12 95 (by decide) (by decide) (by decide), f10, f15 96 (by decide) (by decide) (by decide)]
    exact ⟨o1, o2, o3, o4, o5, o6.of (fun k _ => by rw [f15 103 (by decide) (by decide) (by decide)])⟩
theorem PV.cnx (s : CS) : PV s (cNx s) := (PV.rf s).i 66 _ (by decide)
theorem PV.cpo {s S : CS} (h : PV s S) : PV s (cPo S) := h.i 65 _ (by decide)
theorem PV.cpu {s S : CS} (h : PV s S) (v : Int32) : PV s (cPu S v) := (h.a 60 _ (by decide)).i 65 _ (by decide)
/-- THROW, RAISE -/
def URai (s0 : CS) (r0 : RS) (AL : Als) (p q h w : Nat) (c : List Ent) : Prop := ∃ h' u : Nat, h = h' + 1 ∧ u + 2 ≤ w ∧ (∀ e ∈ c, e.h ≤ h') ∧ TYC s0 r0 AL u c ∧ (s0.a 15 p = 63 ∧ r0.a 21 q = 19 ∧ s0.a 16 p = r0.a 22 q ∧ 0 ≤ (s0.a 16 p).toInt ∧ (s0.a 16 p).toInt < (r0.i 3).toInt)
theorem u_rai {N H n : Nat} (hN : 10000000000 ≤ N) {D : Nat → List Nat} {T : Int32 × CS} {s0 : CS} {r0 : RS} {nm : Nat → Nat → Prop} {AL : Als} {s : CS} {r : RS} {mu : Nat → Nat} {h p q w g : Nat} {c : List Ent} {x : Int32} {U : Int32 × RS} (hct : HCT nm AL) (pt : PTX N H D T s0 r0 nm AL s r mu h p q w g c x) (hq : (q : Int) < (r0.i 20).toInt) (u : URai s0 r0 AL p q h w c) (e : f_X12_run_122 N n r = some U) : NXTW N H D T s0 r0 nm AL n U := by
  obtain ⟨h', u, eh, u1, u2, u3, y1, y2, y3, y4, y5⟩ := u
  obtain ⟨m, S, V, hn, ⟨e1, e2, e3, e4⟩, ⟨v1, v2, v3⟩, ⟨o1, o2⟩, oc, ⟨hp, hq3⟩, x1⟩ := pt_tick hN hct pt hq (by omega) e
  have rf := pt.2.1
  have h21 : r.a 21 q = r0.a 21 q := by rw [rf.2 21 (by decide)]
  have h22 : r.a 22 q = r0.a 22 q := by rw [rf.2 22 (by decide)]
  have mc := pt.2.2.1.1
  rw [eh] at mc
  obtain ⟨-, ck, -, d22, -⟩ := hct _ _ _ _ _ _ pt.2.2.2.2.1
  obtain ⟨t1, t2, t3, t4⟩ := un_tak mc (by omega) (by omega)
  have tp : rTp (rNx r) = cTp s := t4.symm
  have dy := pt.2.2.1.2.1.ex ck t2 t3
  have tr := pt.2.2.1.2.2.ex t2 t3
  have gn := gcr_nn (g := g)
  have gn' := gpo_nn (g := g)
  have r1 : f_X3_raise N (cPo (cNx s)) (cAr s) (cTp s) = some ((), S) := xi_63 (o1.trans y1) e1
  obtain ⟨W, w1, lv⟩ := xa_19 (r := rNx r) (by rw [mc.clq]; exact h21.trans y2) v1
  have ex : (rNx r).a 22 (r.i 92).toNatClampNeg = cAr s := by
    rw [mc.clq, o2, y3]
    exact h22
  rw [ex, tp] at w1
  have pv : PV s (cPo (cNx s)) := (PV.cnx s).cpo
  have i3 : (rPo (rNx r)).i 3 = r0.i 3 := by
    rw [rPo_i (by decide), rNx_i (by decide)]
    exact rf.1 3 (by decide)
  obtain ⟨nu, l, lr, l80, l72⟩ := lvr_ra (u := u) (by omega) (pv.refs pt.1.1.1) (pv.room pt.1.1.2.1) d22 t1 dy (by omega) tr (by rw [o2]; exact y4) (by rw [o2, i3]; exact y5) r1 w1
  exact lv_unit hN hct pt (by omega) v2 v3 (e3 l72) (rf.tr (t3.rfx.tr lr)) (l80.trans (by rw [rPo_i (by decide), rNx_i (by decide)])) ⟨ck, d22, u2⟩ u3 l (by omega) lv
/-- PUSH 0, THROW against RAISE0 -/
def URa0 (s0 : CS) (r0 : RS) (AL : Als) (p q h w : Nat) (c : List Ent) : Prop := ∃ u : Nat, u + 3 ≤ w ∧ h < 600 ∧ TYC s0 r0 AL u c ∧ (s0.a 15 p = 0 ∧ s0.a 16 p = 0 ∧ s0.a 15 (p + 1) = 63 ∧ p + 1 < 1200 ∧ r0.a 21 q = 20 ∧ s0.a 16 (p + 1) = r0.a 22 q ∧ 0 ≤ (s0.a 16 (p + 1)).toInt ∧ (s0.a 16 (p + 1)).toInt < (r0.i 3).toInt)
theorem u_ra0 {N H n : Nat} (hN : 10000000000 ≤ N) {D : Nat → List Nat} {T : Int32 × CS} {s0 : CS} {r0 : RS} {nm : Nat → Nat → Prop} {AL : Als} {s : CS} {r : RS} {mu : Nat → Nat} {h p q w g : Nat} {c : List Ent} {x : Int32} {U : Int32 × RS} (hct : HCT nm AL) (pt : PTX N H D T s0 r0 nm AL s r mu h p q w g c x) (hq : (q : Int) < (r0.i 20).toInt) (u : URa0 s0 r0 AL p q h w c) (e : f_X12_run_122 N n r = some U) : NXTW N H D T s0 r0 nm AL n U := by
  obtain ⟨u, u1, h6, u3, y1, y2, y3, y3', y4, y5, y6, y7⟩ := u
  obtain ⟨m, S, V, hn, ⟨e1, e2, e3, e4⟩, ⟨v1, v2, v3⟩, ⟨o1, o2⟩, oc, ⟨hp, hq3⟩, x1⟩ := pt_tick hN hct pt hq (by omega) e
  obtain ⟨bx, x0⟩ := bud_x pt
  have rf := pt.2.1
  have h21 : r.a 21 q = r0.a 21 q := by rw [rf.2 21 (by decide)]
  have h22 : r.a 22 q = r0.a 22 q := by rw [rf.2 22 (by decide)]
  have mc := pt.2.2.1.1
  obtain ⟨-, ck, -, d22, hh⟩ := hct _ _ _ _ _ _ pt.2.2.2.2.1
  obtain ⟨t1, t2, t3⟩ := un_nx mc (by omega) (by omega)
  have gn := gcr_nn (g := g)
  have gn' := gpo_nn (g := g)
  have eS : S = cPu (cNx s) 0 := by
    have := xi_0 (o1.trans y1) e1
    rw [o2, y2] at this
    exact this
  have q65 : ((cNx s).i 65).toInt = (h : Int) := by
    rw [cNx_i (by decide)]
    exact mc.2.1.1.1
  have S65 : (S.i 65).toInt = (h : Int) + 1 := by
    rw [eS]
    show ((CS.setI (CS.putA (cNx s) 60 (gPut ((cNx s).a 60) 600 ((cNx s).i 65) 0)) 65 ((cNx s).i 65 + 1)).i 65).toInt = _
    rw [ci_at, ad1 (by omega) (by omega), q65]
  have S66 : (S.i 66).toInt = ((p + 1 : Nat) : Int) := by
    rw [eS, cPu_i (by decide)]
    exact cNx_66 mc.1.2.1 (by omega)
  have S72 : S.i 72 = -1 := by
    rw [eS, cPu_i (by decide)]
    exact t1.1.1.1
  have S73 : S.i 73 = 0 := by
    rw [eS, cPu_i (by decide)]
    exact t1.1.1.2
  obtain ⟨S2, f1, f2, -, ⟨f4, f5⟩, f6, x2⟩ := tick2 hN (e3 S72) S72 S73 S66 y3' (by omega)
  have r1 : f_X3_raise N (cPo (cNx S)) (cAr S) (cTp S) = some ((), S2) := xi_63 (f4.trans y3) f1
  have ct : cTp S = 0 := by
    rw [cTp_at S65 h6, eS]
    exact cPu_top q65 h6
  rw [ct] at r1
  obtain ⟨W, w1, lv⟩ := xa_20 (r := rNx r) (by rw [mc.clq]; exact h21.trans y4) v1
  have ex : (rNx r).a 22 (r.i 92).toNatClampNeg = cAr S := by
    rw [mc.clq, f5, y5]
    exact h22
  rw [ex] at w1
  have Ai : ∀ j : Nat, j ≠ 66 → (cPo (cNx S)).i j = (cNx s).i j := fun j a => by
    by_cases b : j = 65
    · rw [b]
      exact Int32.toInt_inj.mp (by
        rw [q65]
        show ((CS.setI (cNx S) 65 ((cNx S).i 65 - 1)).i 65).toInt = _
        rw [ci_at]
        exact sub_n1 (by rw [cNx_i (by decide)]; exact S65))
    · rw [cPo_i b, cNx_i a, eS, cPu_i b]
  obtain ⟨a1, a2⟩ := un_pc (S := cPo (cNx S)) (p' := p + 2) t1 Ai (fun k a => by
    show S.a k = (cNx s).a k
    rw [eS, cPu_a a]) (fun k a => by
    show S.a 60 k = (cNx s).a 60 k
    rw [eS]
    show gPut ((cNx s).a 60) 600 ((cNx s).i 65) 0 k = (cNx s).a 60 k
    unfold gPut
    rw [if_pos ⟨by omega, by omega⟩, cl_nat q65]
    exact if_neg (by omega)) (by rw [eS]; exact ⟨rfl, rfl, rfl, rfl, rfl⟩) (by rw [cPo_i (by decide)]; exact cNx_66 S66 (by omega))
  have ec := t2.tr a2
  have dy := pt.2.2.1.2.1.ex ck ec t3
  have tr := pt.2.2.1.2.2.ex ec t3
  have pv : PV s (cPo (cNx S)) := by
    rw [eS]
    exact (((PV.cnx s).cpu 0).i 66 _ (by decide)).cpo
  have i3 : (rNx r).i 3 = r0.i 3 := by
    rw [rNx_i (by decide)]
    exact rf.1 3 (by decide)
  obtain ⟨nu, l, lr, l80, l72⟩ := lvr_ra (u := u) (by omega) (pv.refs pt.1.1.1) (pv.room pt.1.1.2.1) d22 a1 dy (by omega) tr (by rw [f5]; exact y6) (by rw [f5, i3]; exact y7) r1 w1
  exact lv_unit hN hct pt (by omega) v2 v3 (f2 l72) (rf.tr (t3.rfx.tr lr)) (l80.trans (rNx_i (by decide))) ⟨ck, d22, hh⟩ u3 l (by omega) lv
/-- / and % -/
theorem xi_dv {N : Nat} {s : CS} {R : Unit × CS} {o : Int32} (h : cOp s = o) (ho : o = 10 ∨ o = 11) (e : f_X3_instruction N s = some R) : (cTp s = 0 ∧ ∃ Q : Unit × CS, f_X3_raise N (cPo (cPo (cNx s))) 2 0 = some Q ∧ R.2 = Q.2) ∨ (¬ cTp s = 0 ∧ R.2 = cPu (cPo (cPo (cNx s))) (if o = 10 then cTp (cPo s) / cTp s else cTp (cPo s) - cTp (cPo s) / cTp s * cTp s)) := by
  have z := xi_com (by rw [h]; rcases ho with y | y <;> rw [y] <;> decide) (by rw [h]; rcases ho with y | y <;> rw [y] <;> decide) e
  rw [h] at z
  unfold f_X3_combine at z
  rw [e_cPo, ob_some, e_cPo, ob_some, if_pos (by rcases ho with y | y <;> rw [y] <;> decide), if_neg (by rcases ho with y | y <;> rw [y] <;> decide), if_neg (by rcases ho with y | y <;> rw [y] <;> decide), if_neg (by rcases ho with y | y <;> rw [y] <;> decide)] at z
  obtain ⟨A, a1, a2⟩ := hf_bind z
  unfold f_X3_divide at a1
  have eA : R.2 = A.2 := by rw [← Option.some.inj a2]
  have t1 : cTp (cNx s) = cTp s := rfl
  have t2 : cTp (cPo (cNx s)) = cTp (cPo s) := rfl
  rw [eA]
  by_cases c : cTp s = 0
  · left
    have a3 := (if_pos (show cTp (cNx s) = 0 from c)).symm.trans a1
    obtain ⟨Q, q1, q2⟩ := hf_bind a3
    exact ⟨c, Q, q1, by rw [← Option.some.inj q2]⟩
  · right
    refine ⟨c, ?_⟩
    have a3 := (if_neg (show ¬ cTp (cNx s) = 0 from c)).symm.trans a1
    rcases ho with y | y
    · have a4 := (if_pos y).symm.trans a3
      have a5 := (if_neg (show ¬ cTp (cNx s) = 0 from c)).symm.trans a4
      rw [e_cPu, ob_some] at a5
      rw [if_pos y, ← Option.some.inj a5]
      rfl
    · have a4 := (if_neg (show ¬ o = 10 by rw [y]; decide)).symm.trans a3
      have a5 := (if_neg (show ¬ cTp (cNx s) = 0 from c)).symm.trans a4
      rw [e_cPu, ob_some] at a5
      rw [if_neg (by rw [y]; decide), ← Option.some.inj a5]
      rfl
theorem xa_dv {N : Nat} {r V : RS} {x o : Int32} (h : r.a 21 x.toNatClampNeg = 8) (h2 : r.a 22 x.toNatClampNeg = o) (ho : o = 47 ∨ o = 37) (g : f_X12_act N r x = some V) : (rTp r = 0 ∧ ∃ W : RS, f_X12_raise N (rPo (rPo r)) 2 0 = some W ∧ f_X12_leave N W = some V) ∨ (¬ rTp r = 0 ∧ V = rPu (rPo (rPo r)) (if o = 47 then rTp (rPo r) / rTp r else rTp (rPo r) - rTp (rPo r) / rTp r * rTp r)) := by
  unfold f_X12_act at g
  obtain ⟨-, g⟩ := hf_ite g
  rw [h] at g
  rw [if_neg (by decide), if_neg (by decide), if_neg (by decide), if_neg (by decide), if_neg (by decide), if_neg (by decide), if_neg (by decide), if_pos rfl, h2] at g
  obtain ⟨a, ga, go⟩ := hf_bind g
  obtain ⟨b, gb, go⟩ := hf_bind go
  rw [e_rPo ga] at gb go
  have eb : b = (rTp (rPo r), rPo (rPo r)) := e_rPo gb
  rw [eb] at go
  have g212 : f_X12_act_212 N (rPo (rPo r)) o (rTp r) (rTp (rPo r)) = some V := by
    rcases ho with y | y
    · rw [if_pos y] at go
      exact go
    · rw [if_neg (by rw [y]; decide), if_pos y] at go
      exact go
  unfold f_X12_act_212 f_X12_act_229 at g212
  by_cases c : rTp r = 0
  · left
    have g3 := (if_pos c).symm.trans g212
    obtain ⟨W, w1, w2⟩ := hf_bind g3
    obtain ⟨W2, w3, w4⟩ := hf_bind w2
    refine ⟨c, W, w1, ?_⟩
    rw [w3]
    exact w4
  · right
    refine ⟨c, ?_⟩
    have g3 := (if_neg c).symm.trans g212
    obtain ⟨w, w1, w2⟩ := hf_bind g3
    rw [ob_id] at w2
    unfold f_X12_compute at w1
    rcases ho with y | y
    · rw [if_neg (by rw [y]; decide), if_neg (by rw [y]; decide), if_neg (by rw [y]; decide), if_neg (by rw [y]; decide), if_pos y] at w1
      have w3 := (if_neg c).symm.trans w1
      have e3 := (Option.some.inj w3).symm
      rw [e3] at w2
      rw [if_pos y]
      exact e_rPu w2
    · rw [if_pos y] at w1
      have w3 := (if_neg c).symm.trans w1
      have e3 := (Option.some.inj w3).symm
      rw [e3] at w2
      rw [if_neg (by rw [y]; decide)]
      exact e_rPu w2
def UDiv (s0 : CS) (r0 : RS) (AL : Als) (p q h w : Nat) (c : List Ent) : Prop := ∃ h' u : Nat, h = h' + 1 + 1 ∧ u + 2 ≤ w ∧ (∀ e ∈ c, e.h ≤ h') ∧ TYC s0 r0 AL u c ∧ (r0.a 21 q = 8 ∧ ((s0.a 15 p = 10 ∧ r0.a 22 q = 47) ∨ (s0.a 15 p = 11 ∧ r0.a 22 q = 37))) ∧ NXW AL (p + 1) (q + 1) (h' + 1) w 1 0 c
theorem u_div {N H n : Nat} (hN : 10000000000 ≤ N) {D : Nat → List Nat} {T : Int32 × CS} {s0 : CS} {r0 : RS} {nm : Nat → Nat → Prop} {AL : Als} {s : CS} {r : RS} {mu : Nat → Nat} {h p q w g : Nat} {c : List Ent} {x : Int32} {U : Int32 × RS} (hct : HCT nm AL) (pt : PTX N H D T s0 r0 nm AL s r mu h p q w g c x) (hq : (q : Int) < (r0.i 20).toInt) (u : UDiv s0 r0 AL p q h w c) (e : f_X12_run_122 N n r = some U) : NXTW N H D T s0 r0 nm AL n U := by
  obtain ⟨h', u, eh, u1, u2, u3, ⟨y1, y2⟩, w', u5, u6⟩ := u
  obtain ⟨m, S, V, hn, ⟨e1, e2, e3, e4⟩, ⟨v1, v2, v3⟩, ⟨o1, o2⟩, oc, ⟨hp, hq3⟩, x1⟩ := pt_tick hN hct pt hq (by omega) e
  have rf := pt.2.1
  have h21 : r.a 21 q = r0.a 21 q := by rw [rf.2 21 (by decide)]
  have h22 : r.a 22 q = r0.a 22 q := by rw [rf.2 22 (by decide)]
  have mc := pt.2.2.1.1
  rw [eh] at mc
  obtain ⟨-, ck, -, d22, -⟩ := hct _ _ _ _ _ _ pt.2.2.2.2.1
  obtain ⟨b1, b2⟩ := un_tp2 mc (by omega) (by omega)
  have gn := gcr_nn (g := g)
  have gn' := gpo_nn (g := g)
  have tp1 : rTp (rNx r) = cTp s := b1.symm
  have tp2 : rTp (rPo (rNx r)) = cTp (cPo s) := b2.symm
  have key : ∃ o o' : Int32, cOp s = o ∧ (o = 10 ∨ o = 11) ∧ r.a 22 q = o' ∧ (o' = 47 ∨ o' = 37) ∧ (o = 10 ↔ o' = 47) := by
    rcases y2 with ⟨a, b⟩ | ⟨a, b⟩
    · exact ⟨10, 47, o1.trans a, Or.inl rfl, h22.trans b, Or.inl rfl, by decide⟩
    · exact ⟨11, 37, o1.trans a, Or.inr rfl, h22.trans b, Or.inr rfl, by decide⟩
  obtain ⟨o, o', k1, k2, k3, k4, k5⟩ := key
  have ga := xa_dv (r := rNx r) (o := o') (by rw [mc.clq]; exact h21.trans y1) (by rw [mc.clq]; exact k3) k4 v1
  rw [tp1, tp2] at ga
  rcases xi_dv k1 k2 e1 with ⟨c0, Q, q1, q2⟩ | ⟨c0, q2⟩
  · rcases ga with ⟨-, W, w1, lv⟩ | ⟨c1, -⟩
    · obtain ⟨t1, t2, t3, -⟩ := un_tak mc (by omega) (by omega)
      have v' := t1.2.1.pop
      have a1 : EXC nm (cPo (cNx s)) (cPo (cPo (cNx s))) := ⟨fun j h1 _ _ _ => cPo_i h1, fun _ _ _ _ => rfl, ⟨rfl, rfl, rfl, rfl, rfl⟩, fun _ _ => rfl⟩
      have a2 : EXV nm (rPo (rNx r)) (rPo (rPo (rNx r))) := ⟨fun j _ _ _ h4 => rPo_i h4, fun _ _ _ _ _ => rfl, fun _ _ => rfl, le_80 (rPo_i (by decide))⟩
      have tt : MCO nm (cPo (cPo (cNx s))) (rPo (rPo (rNx r))) h' (p + 1) (q + 1) := un_vs t1 v' a1 a2 rfl rfl (cPo_i (by decide)) (rPo_i (by decide)) (t1.2.2.1.of (cPo_i (by decide)) (cPo_i (by decide)) rfl (rPo_i (by decide)) (rPo_i (by decide)) rfl rfl)
      have ec := t2.tr a1
      have ev := t3.tr a2
      have dy := pt.2.2.1.2.1.ex ck ec ev
      have tr := pt.2.2.1.2.2.ex ec ev
      have pv : PV s (cPo (cPo (cNx s))) := (PV.cnx s).cpo.cpo
      have z2 : (2 : Int32).toInt = 2 := by decide
      have z4 := le_int (pt.2.2.1.2.2.2.2.2.1.1)
      have e44 : (4 : Int32).toInt = 4 := by decide
      have i3 : (rPo (rPo (rNx r))).i 3 = r.i 3 := by rw [rPo_i (by decide), rPo_i (by decide), rNx_i (by decide)]
      obtain ⟨nu, l, lr, l80, l72⟩ := lvr_ra (u := u) (by omega) (pv.refs pt.1.1.1) (pv.room pt.1.1.2.1) d22 tt dy (by omega) tr (by rw [z2]; decide) (by rw [z2, i3]; omega) q1 w1
      rw [← q2] at l l72
      exact lv_unit hN hct pt (by omega) v2 v3 (e3 l72) (rf.tr (ev.rfx.tr lr)) (l80.trans (by rw [rPo_i (by decide), rPo_i (by decide), rNx_i (by decide)])) ⟨ck, d22, u2⟩ u3 l (by omega) lv
    · exact absurd c0 c1
  · rcases ga with ⟨c1, -⟩ | ⟨-, gV⟩
    · exact absurd c1 c0
    · have ev : (if o = 10 then cTp (cPo s) / cTp s else cTp (cPo s) - cTp (cPo s) / cTp s * cTp s) = (if o' = 47 then cTp (cPo s) / cTp s else cTp (cPo s) - cTp (cPo s) / cTp s * cTp s) := by
        by_cases z : o = 10
        · rw [if_pos z, if_pos (k5.mp z)]
        · rw [if_neg z, if_neg (fun y => z (k5.mpr y))]
      rw [← ev] at gV
      obtain ⟨m1, m2, m3⟩ := un_bin mc (by omega) (by omega) (if o = 10 then cTp (cPo s) / cTp s else cTp (cPo s) - cTp (cPo s) / cTp s * cTp s)
      have q2' : S = cPu (cPo (cPo (cNx s))) (if o = 10 then cTp (cPo s) / cTp s else cTp (cPo s) - cTp (cPo s) / cTp s * cTp s) := q2
      rw [← q2'] at m1 m2
      rw [← gV] at m1 m3
      exact pl_fin hct pt hn x1 e3 v3 v2 m1 m2 m3 u6 u5 (by decide) (BTP.no (by decide))
end
section
/-! both machines: a step, an end, thrown again, for without a condition, jumps that leave no frame -/
/-- both end without a value -/
theorem rnz_pl {nm : Nat → Nat → Prop} {s S : CS} {r V : RS} {mu : Nat → Nat} {AL : Als} {h p q : Nat} {c : List Ent} {n : Int} (sy : SYN nm s r mu AL h p q c n) (ei : ∀ j : Nat, j ≠ 66 → j ≠ 72 → S.i j = s.i j) (ea : S.a = s.a) (gi : ∀ j : Nat, j ≠ 92 → j ≠ 115 → V.i j = r.i j) (ga : V.a = r.a) (h72 : ¬ S.i 72 = 1 ∧ ¬ S.i 72 = 2) (h115 : ¬ V.i 115 = 2 ∧ ¬ V.i 115 = 3) : RNZ S V := by
  obtain ⟨⟨-, -, ⟨⟨m1, -, -⟩, ⟨m2, m3⟩, m4⟩, -⟩, ⟨⟨-, -, d3, -⟩, -⟩, -⟩ := sy
  refine ⟨⟨?_, ?_, ?_⟩, ⟨⟨fun z => absurd z h72.1, fun z => absurd z h115.1⟩, fun z => absurd z h72.2, fun z => absurd z h115.2⟩, fun z => absurd z h115.1, fun k hk => ?_, ?_, fun z => absurd z h115.2⟩
  · rw [ei 70 (by decide) (by decide), gi 80 (by decide) (by decide)]
    exact m1
  · rw [ei 69 (by decide) (by decide), gi 81 (by decide) (by decide)]
    exact m2
  · rw [gi 81 (by decide) (by decide)]
    exact m3
  · rw [gi 81 (by decide) (by decide)] at hk
    rw [ea, ga]
    exact m4 k hk
  · rw [ei 71 (by decide) (by decide), hS_of (r := r) (R := V) (by rw [ga]) 8]
    exact d3
def UStp (s0 : CS) (r0 : RS) (AL : Als) (p q h w : Nat) (c : List Ent) : Prop := s0.a 15 p = 51 ∧ r0.a 21 q = 1 ∧ 1 ≤ w ∧ ∃ w' : Nat, w' ≤ w + 2528 ∧ AL (p + 1) (q + 1) h w' 1 c
theorem u_stp {N H n : Nat} (hN : 10000000000 ≤ N) {D : Nat → List Nat} {T : Int32 × CS} {s0 : CS} {r0 : RS} {nm : Nat → Nat → Prop} {AL : Als} {s : CS} {r : RS} {mu : Nat → Nat} {h p q w g : Nat} {c : List Ent} {x : Int32} {U : Int32 × RS} (hct : HCT nm AL) (pt : PTX N H D T s0 r0 nm AL s r mu h p q w g c x) (hq : (q : Int) < (r0.i 20).toInt) (u : UStp s0 r0 AL p q h w c) (e : f_X12_run_122 N n r = some U) : NXTW N H D T s0 r0 nm AL n U := by
  obtain ⟨u1, u2, u3, w', u5, u6⟩ := u
  obtain ⟨m, S, V, hn, ⟨e1, e2, e3, e4⟩, ⟨v1, v2, v3⟩, ⟨o1, o2⟩, oc, ⟨hp, hq3⟩, x1⟩ := pt_tick hN hct pt hq u3 e
  have rf := pt.2.1
  have h21 : r.a 21 q = r0.a 21 q := by rw [rf.2 21 (by decide)]
  have gn := gcr_nn (g := g)
  have gn' := gpo_nn (g := g)
  obtain ⟨-, ck, -⟩ := hct _ _ _ _ _ _ pt.2.2.2.2.1
  rcases un_step pt.2.2.1.1 (by omega) (by omega) (o1.trans u1) (h21.trans u2) e1 v1 with ⟨z1, z2⟩ | ⟨⟨m1, m2, m3⟩, m4⟩
  · right
    have z1' : S = CS.setI (cNx s) 72 3 := z1
    have s72 : S.i 72 = 3 := by rw [z1', ci_at]
    have v115 : V.i 115 = 5 := by rw [z2, ri_ne (by decide), ri_at]
    have eT := e4 (by rw [s72]; decide)
    have ru := rn_end (Or.inl (by rw [z2, ri_at]; decide)) v2
    unfold f_X12_run_163 at ru
    rw [if_neg (by rw [v115]; decide), if_neg (by rw [v115]; decide), if_pos v115] at ru
    rw [eT, ← Option.some.inj ru]
    refine ⟨rnz_pl pt.2.2.1 (fun j a b => by rw [z1', ci_ne _ _ _ b, cNx_i a]) (by rw [z1']; rfl) (fun j a b => by rw [z2, ri_ne a, ri_ne b, rNx_i a]) (by rw [z2]; rfl) (by rw [s72]; decide) (by rw [v115]; decide), s72⟩
  · obtain ⟨p1, p2, ⟨p3, p4, p5⟩, p6, p7, p8⟩ := pt
    obtain ⟨⟨d1, d2, d3, ⟨d4, d5⟩, d6, d7⟩, o⟩ := p4.ex ck m2 m3
    have i85 : V.i 85 = r.i 85 := m3.1 85 (by decide) (by decide) (by decide) (by decide)
    have d5' := p4.1.2.2.2.1.2
    refine Or.inl ⟨m, S, V, mu, h, p + 1, q + 1, w', 1, c, x + 1, by omega, ⟨e3 m1.1.1.1, v3, ⟨m1, ⟨⟨d1, d2, d3, ⟨d4, ?_⟩, d6, d7⟩, o⟩, p5.ex m2 m3⟩, BTP.no (by decide), u6, ?_⟩, v2⟩
    · show (V.i 85).toInt + tps c ≤ 2 * (V.i 80).toInt + -2
      rw [i85, m4]
      omega
    · rw [m4, x1]
      show x.toInt + 1 + fps c + w' + 1461 ≤ _
      omega
/-- the end of the code -/
def UEnd (s0 : CS) (p q w : Nat) (r0 : RS) : Prop := s0.a 15 p = 50 ∧ (q : Int) = (r0.i 20).toInt ∧ 1 ≤ w
theorem u_end {N H n : Nat} (hN : 10000000000 ≤ N) {D : Nat → List Nat} {T : Int32 × CS} {s0 : CS} {r0 : RS} {nm : Nat → Nat → Prop} {AL : Als} {s : CS} {r : RS} {mu : Nat → Nat} {h p q w g : Nat} {c : List Ent} {x : Int32} {U : Int32 × RS} (hct : HCT nm AL) (pt : PTX N H D T s0 r0 nm AL s r mu h p q w g c x) (u : UEnd s0 p q w r0) (e : f_X12_run_122 N n r = some U) : NXTW N H D T s0 r0 nm AL n U := by
  obtain ⟨u1, u2, u3⟩ := u
  obtain ⟨bx, x0⟩ := bud_x pt
  obtain ⟨p1, p2, p3, -, p6, -⟩ := pt
  obtain ⟨⟨hp, hq3⟩, -⟩ := hct _ _ _ _ _ _ p6
  have mc := p3.1
  obtain ⟨S, e1, e2, e3, e4⟩ := p1.on hN mc.1.1.1 mc.1.1.2 (by omega)
  have o := (cop_at mc.1.2.1 hp).1
  rw [p1.2.1.2.1 15 (by decide)] at o
  have eS : S = CS.setI (cNx s) 72 0 := xi_50 (o.trans u1) e1
  have s72 : S.i 72 = 0 := by rw [eS, ci_at]
  have eT := e4 (by rw [s72]; decide)
  have r115 : r.i 115 = 0 := p3.2.1.1.2.2.2.2.2
  have q92 := mc.1.2.2
  have ru := rn_end (Or.inr (by rw [p2.1 20 (by decide), q92, u2]; exact Int.le_refl _)) e
  unfold f_X12_run_163 at ru
  rw [if_neg (by rw [r115]; decide), if_neg (by rw [r115]; decide), if_neg (by rw [r115]; decide)] at ru
  right
  rw [eT, ← Option.some.inj ru]
  exact ⟨rnz_pl p3 (fun j a b => by rw [eS, ci_ne _ _ _ b, cNx_i a]) (by rw [eS]; rfl) (fun _ _ _ => rfl) rfl (by rw [s72]; decide) (by rw [r115]; decide), s72⟩
/-- for without a condition -/
def UFor (s0 : CS) (r0 : RS) (AL : Als) (p q h w : Nat) (c : List Ent) : Prop := s0.a 15 p = 30 ∧ (r0.a 21 q = 2 ∧ r0.a 22 q = 1 ∧ r0.a 21 (q + 1) = 13 ∧ r0.a 21 (q + 2) = 15 ∧ ((q + 2 : Nat) : Int) < (r0.i 20).toInt) ∧ JX s0 AL (s0.a 16 p) (r0.a 22 (q + 2)) h w 1 0 c
theorem u_for {N H n : Nat} (hN : 10000000000 ≤ N) {D : Nat → List Nat} {T : Int32 × CS} {s0 : CS} {r0 : RS} {nm : Nat → Nat → Prop} {AL : Als} {s : CS} {r : RS} {mu : Nat → Nat} {h p q w g : Nat} {c : List Ent} {x : Int32} {U : Int32 × RS} (hct : HCT nm AL) (pt : PTX N H D T s0 r0 nm AL s r mu h p q w g c x) (hq : (q : Int) < (r0.i 20).toInt) (u : UFor s0 r0 AL p q h w c) (e : f_X12_run_122 N n r = some U) : NXTW N H D T s0 r0 nm AL n U := by
  obtain ⟨u1, ⟨u2, u3, u4, u5, u6⟩, p', q', w', ⟨u7, u8⟩, u9, u10⟩ := u
  obtain ⟨m, S, V, hn, ⟨e1, e2, e3, e4⟩, ⟨v1, v2, v3⟩, ⟨o1, o2⟩, oc, ⟨hp, hq3⟩, x1⟩ := pt_tick hN hct pt hq (by omega) e
  have rf := pt.2.1
  have mc := pt.2.2.1.1
  have h21 : r.a 21 = r0.a 21 := rf.2 21 (by decide)
  have h22 : r.a 22 = r0.a 22 := rf.2 22 (by decide)
  have hv := mc.2.1.1
  -- PUSH 1
  have g1 := xa_2 (r := rNx r) (by rw [mc.clq]; show r.a 21 q = 2; rw [h21]; exact u2) v1
  have ev1 : V = rPu (rNx r) 1 := by
    rw [g1, mc.clq]
    show rPu (rNx r) (r.a 22 q) = _
    rw [h22, u3]
  have n92 : ((rNx r).i 92).toInt = ((q + 1 : Nat) : Int) := (mc.nx (by omega) (by omega)).2.2.2
  have V92 : (V.i 92).toInt = ((q + 1 : Nat) : Int) := by
    rw [ev1, rPu_i (by decide)]
    exact n92
  have r93 : ((rNx r).i 93).toInt = (h : Int) := by
    rw [rNx_i (by decide)]
    exact hv.2.1
  have V93 : (V.i 93).toInt = (h : Int) + 1 := by
    rw [ev1]
    show ((RS.setI (RS.setA (rNx r) 94 ((rNx r).i 93).toNatClampNeg 1) 93 ((rNx r).i 93 + 1)).i 93).toInt = _
    rw [ri_at, ad1 (by omega) (by omega), r93]
  have Vtop : rTp V = 1 := by
    unfold rTp
    rw [cl_nat (sub_n1 V93), ev1]
    show (RS.setA (rNx r) 94 ((rNx r).i 93).toNatClampNeg 1).a 94 h = 1
    rw [cl_nat r93, setA_at]
  have Va : ∀ k : Nat, k ≠ 94 → V.a k = r.a k := fun k a => by
    rw [ev1, rPu_a a]
    rfl
  have i20 : V.i 20 = r0.i 20 := v3.1 20 (by decide)
  cases m with
  | zero => cases v2
  | succ m =>
    obtain ⟨V2, a1, a2⟩ := rn_one (by omega) (by rw [i20]; omega) v2
    have g2 := xa_13 (r := RS.setI V 92 (V.i 92 + 1)) (by rw [cl_nat V92]; show V.a 21 (q + 1) = 13; rw [Va 21 (by decide), h21]; exact u4) a1
    have t2 : rTp (RS.setI V 92 (V.i 92 + 1)) = 1 := by
      unfold rTp
      rw [ri_ne (by decide)]
      exact Vtop
    rw [t2, if_neg (by decide)] at g2
    have V2i : ∀ j : Nat, j ≠ 92 → j ≠ 93 → V2.i j = r.i j := fun j a b => by
      rw [g2, ri_ne a, rPo_i b, ri_ne a, ev1, rPu_i b, rNx_i a]
    have V292 : (V2.i 92).toInt = ((q + 2 : Nat) : Int) := by
      rw [g2, ri_at, ri_at, ad1 (by omega) (by omega), V92]
      omega
    have V293 : V2.i 93 = r.i 93 := Int32.toInt_inj.mp (by
      rw [g2, ri_ne (by decide), hv.2.1]
      show ((RS.setI (RS.setI V 92 (V.i 92 + 1)) 93 ((RS.setI V 92 (V.i 92 + 1)).i 93 - 1)).i 93).toInt = _
      rw [ri_at, ri_ne (by decide)]
      exact sub_n1 V93)
    have V2a : V2.a = V.a := by
      rw [g2]
      rfl
    have j20 : V2.i 20 = r0.i 20 := (V2i 20 (by decide) (by decide)).trans (rf.1 20 (by decide))
    cases m with
    | zero => cases a2
    | succ m =>
      obtain ⟨V3, b1, b2⟩ := rn_one (by omega) (by rw [j20]; omega) a2
      have g3 := xa_15 (r := RS.setI V2 92 (V2.i 92 + 1)) (by rw [cl_nat V292]; show V2.a 21 (q + 2) = 15; rw [V2a, Va 21 (by decide), h21]; exact u5) b1
      rw [cl_nat V292] at g3
      have V3i : ∀ j : Nat, j ≠ 92 → V3.i j = r.i j := fun j a => by
        rw [g3, ri_ne a, ri_ne a]
        by_cases z : j = 93
        · rw [z]
          exact V293
        · exact V2i j a z
      have V392 : (V3.i 92).toInt = (q' : Int) := by
        rw [g3, ri_at]
        show (V2.a 22 (q + 2)).toInt = _
        rw [V2a, Va 22 (by decide), h22]
        exact u8
      have V3a : ∀ k : Nat, k ≠ 94 → V3.a k = r.a k := fun k a => by
        rw [g3]
        show V2.a k = r.a k
        rw [V2a, Va k a]
      have V394 : ∀ k : Nat, k < h → V3.a 94 k = r.a 94 k := fun k hk => by
        rw [g3]
        show V2.a 94 k = r.a 94 k
        rw [V2a, ev1]
        show (RS.setA (rNx r) 94 ((rNx r).i 93).toNatClampNeg 1).a 94 k = r.a 94 k
        rw [cl_nat r93, setA_ne (by omega)]
        rfl
      have ev : EXV nm r V3 := ⟨fun j _ _ a _ => V3i j a, fun k _ _ _ a => V3a k a, fun l _ => by rw [V3a 84 (by decide)], le_80 (V3i 80 (by decide))⟩
      have eS : S = CS.setI (cNx s) 66 (cTg s (cAr s)) := xi_30 (o1.trans u1) e1
      have ec : EXC nm s S := by
        rw [eS]
        exact ⟨fun j _ a _ _ => by rw [ci_ne _ _ _ a, cNx_i a], fun _ _ _ _ => rfl, ⟨rfl, rfl, rfl, rfl, rfl⟩, fun _ _ => rfl⟩
      have S72 : S.i 72 = -1 := (ec.1 72 (by decide) (by decide) (by decide) (by decide)).trans mc.1.1.1
      have m3 : MCO nm S V3 h p' q' := by
        refine ⟨⟨⟨S72, (ec.1 73 (by decide) (by decide) (by decide) (by decide)).trans mc.1.1.2⟩, by rw [eS, ci_at, oc, o2]; exact u7, V392⟩, ⟨⟨by rw [eS, ci_ne _ _ _ (by decide), cNx_i (by decide)]; exact hv.1, by rw [V3i 93 (by decide)]; exact hv.2.1, hv.2.2⟩, fun k hk => ?_⟩, mc.2.2.1.of (by rw [eS, ci_ne _ _ _ (by decide), cNx_i (by decide)]) (by rw [eS, ci_ne _ _ _ (by decide), cNx_i (by decide)]) (by rw [eS]; rfl) (V3i 80 (by decide)) (V3i 81 (by decide)) (V3a 82 (by decide)) (V3a 83 (by decide)), fun k l hk => ?_⟩
        · rw [V394 k hk, eS]
          exact mc.2.1.2 k hk
        · rw [V3a 84 (by decide), eS]
          exact mc.2.2.2 k l hk
      exact pl_fink (k := 1) hct pt (by omega) (by omega) (e3 S72) (rf.tr ev.rfx) b2 m3 ec ev u10 u9 (by decide) (BTP.no (by decide))
/-- a rest of the entries -/
theorem FRS.sub {s : CS} {r : RS} {mu : Nat → Nat} {AL : Als} : ∀ {c1 c0 : List Ent} {m : Int}, FRS s r mu AL (c1 ++ c0) m → ∃ m' : Int, FRS s r mu AL c0 m'
  | [], _, m, h => ⟨m, h⟩
  | a :: c1, c0, m, ⟨_, h⟩ => by
    rcases h with ⟨-, -, -, h⟩ | ⟨-, -, -, -, h⟩ | ⟨-, -, -, -, h⟩ | ⟨-, -, -, -, h⟩ | ⟨-, -, m0, -, h⟩ | ⟨-, -, -, h⟩
    · exact FRS.sub h
    · exact FRS.sub h
    · exact FRS.sub h
    · exact FRS.sub h
    · exact FRS.sub h
    · exact FRS.sub h
theorem frs_ap (a b : List Ent) : frs b ≤ frs (a ++ b) := by
  induction a with
  | nil => exact Nat.le_refl _
  | cons z a ih => exact Nat.le_trans ih frs_le
/-- RETHROW, AGAIN -/
def UAga (s0 : CS) (r0 : RS) (AL : Als) (p q h w : Nat) (c : List Ent) : Prop := s0.a 15 p = 64 ∧ r0.a 21 q = 21 ∧ ∃ u : Nat, u + 2 ≤ w ∧ TYC s0 r0 AL u c ∧ ∃ (c1 : List Ent) (a : Ent) (c0 : List Ent), c = c1 ++ a :: c0 ∧ a.k = 2 ∧ (s0.a 16 p).toInt = (frs c0 : Int) ∧ (r0.a 22 q).toInt = (a.w : Int)
theorem u_aga {N H n : Nat} (hN : 10000000000 ≤ N) {D : Nat → List Nat} {T : Int32 × CS} {s0 : CS} {r0 : RS} {nm : Nat → Nat → Prop} {AL : Als} {s : CS} {r : RS} {mu : Nat → Nat} {h p q w g : Nat} {c : List Ent} {x : Int32} {U : Int32 × RS} (hct : HCT nm AL) (pt : PTX N H D T s0 r0 nm AL s r mu h p q w g c x) (hq : (q : Int) < (r0.i 20).toInt) (u : UAga s0 r0 AL p q h w c) (e : f_X12_run_122 N n r = some U) : NXTW N H D T s0 r0 nm AL n U := by
  obtain ⟨y1, y2, u, u1, u3, c1, a, c0, y3, ak, y4, y5⟩ := u
  obtain ⟨m, S, V, hn, ⟨e1, e2, e3, e4⟩, ⟨v1, v2, v3⟩, ⟨o1, o2⟩, oc, ⟨hp, hq3⟩, x1⟩ := pt_tick hN hct pt hq (by omega) e
  have rf := pt.2.1
  have h21 : r.a 21 q = r0.a 21 q := by rw [rf.2 21 (by decide)]
  have h22 : r.a 22 q = r0.a 22 q := by rw [rf.2 22 (by decide)]
  have mc := pt.2.2.1.1
  obtain ⟨-, ck, -, d22, hh⟩ := hct _ _ _ _ _ _ pt.2.2.2.2.1
  obtain ⟨t1, t2, t3⟩ := un_nx mc (by omega) (by omega)
  have dy := pt.2.2.1.2.1.ex ck t2 t3
  have tr := pt.2.2.1.2.2.ex t2 t3
  have gn := gcr_nn (g := g)
  have gn' := gpo_nn (g := g)
  have frc := pt.2.2.1.2.1.1.1
  rw [y3] at frc
  obtain ⟨m', -, fa⟩ := frc.sub
  have fl : frs (a :: c0) ≤ frs c := by
    rw [y3]
    exact frs_ap c1 (a :: c0)
  have fu : frs (a :: c0) = frs c0 + 1 := frs_up (by omega)
  rcases fa with ⟨k0, -⟩ | ⟨k0, -⟩ | ⟨k2, a1, a2, ⟨f, b, a3, a4, a5, a6, a7, a8⟩, a9⟩ | ⟨k0, -⟩ | ⟨k0, -⟩ | ⟨k0, -⟩
  · omega
  · omega
  · have d67 := pt.2.2.1.2.1.1.2.1.1
    have eS : S = cAg (cNx s) b := xi_64 (d := frs c0) (o1.trans y1) (by rw [o2]; exact y4) (by omega) (by omega) a3.1 a5 e1
    have lv := xa_21 (r := rNx r) (by rw [mc.clq]; exact h21.trans y2) v1
    have e84 : (rNx r).a 84 ((rNx r).a 22 (r.i 92).toNatClampNeg).toNatClampNeg = r.a 84 a.w := by
      rw [mc.clq]
      show r.a 84 (r.a 22 q).toNatClampNeg = _
      rw [h22, cl_nat y5]
    rw [e84] at lv
    obtain ⟨g1, ⟨g2, g3, g4⟩, g5, g6, g7, g8, g9, g10⟩ := cag_f (s := cNx s) (b := b)
    rw [← eS] at g1 g2 g3 g4 g5 g6 g7 g8 g9 g10
    have S72 : S.i 72 = -1 := (g1 72 (by decide) (by decide) (by decide)).trans t1.1.1.1
    obtain ⟨W, hW⟩ : ∃ W, W = RS.setI (RS.setI (rNx r) 114 (r.a 84 a.w)) 110 3 := ⟨_, rfl⟩
    rw [← hW] at lv
    have Wi : ∀ j : Nat, j ≠ 110 → j ≠ 114 → W.i j = (rNx r).i j := fun j a b => by rw [hW, ri_ne a, ri_ne b]
    have W110 : W.i 110 = 3 := by rw [hW, ri_at]
    have W114 : W.i 114 = r.a 84 a.w := by rw [hW, ri_ne (by decide), ri_at]
    have Wa : W.a = (rNx r).a := by
      rw [hW]
      rfl
    clear hW
    have tl : TLV S W mu b := by
      have q := a6.ex t2 t3
      unfold TLV THG inP at *
      rw [g7, g8, g10, Wa, Wi 85 (by decide) (by decide), Wi 3 (by decide) (by decide)]
      exact q
    have l : LVR nm S W mu AL h c 0 u := lvr_mk t1 dy (by omega) tr g1 g6 ⟨g7, g8, g9, g10⟩ (fun j z => Wi j (by omega) (by omega)) Wa (Or.inr (Or.inr (Or.inr ⟨g2, W110, g4, b, g5, by rw [W114]; exact a7, tl⟩)))
    have wr : RFX r0 W := rf.tr (t3.rfx.tr ⟨fun j hj => Wi j (by omega) (by omega), fun k _ => by rw [Wa]⟩)
    exact lv_unit hN hct pt (by omega) v2 v3 (e3 S72) wr ((Wi 80 (by decide) (by decide)).trans (rNx_i (by decide))) ⟨ck, d22, hh⟩ u3 l (by omega) lv
  · omega
  · omega
  · omega
end
section
/-! the reference: the rest of its instructions -/
theorem xo_23 {N : Nat} {r V : RS} {x : Int32} (h : r.a 21 x.toNatClampNeg = 23) (g0 : f_X12_act N r x = some V) : f_X12_others N r x (r.a 22 x.toNatClampNeg) = some V := by
  have g := xa_ends (by rw [h]; decide) g0
  unfold f_X12_ends at g
  obtain ⟨-, g1⟩ := hf_ite g
  rw [if_neg (by rw [h]; decide), if_neg (by rw [h]; decide), if_neg (by rw [h]; decide), if_neg (by rw [h]; decide), if_neg (by rw [h]; decide), if_neg (by rw [h]; decide), if_pos h] at g1
  obtain ⟨A, a1, a2⟩ := hf_bind g1
  rw [a1]
  exact a2
theorem xo_24 {N : Nat} {r V : RS} {x : Int32} (h : r.a 21 x.toNatClampNeg = 24) (g0 : f_X12_act N r x = some V) : f_X12_others N r x (r.a 22 x.toNatClampNeg) = some V := by
  have g := xa_ends (by rw [h]; decide) g0
  unfold f_X12_ends at g
  obtain ⟨-, g1⟩ := hf_ite g
  rw [if_neg (by rw [h]; decide), if_neg (by rw [h]; decide), if_neg (by rw [h]; decide), if_neg (by rw [h]; decide), if_neg (by rw [h]; decide), if_neg (by rw [h]; decide), if_neg (by rw [h]; decide), if_pos h] at g1
  obtain ⟨A, a1, a2⟩ := hf_bind g1
  rw [a1]
  exact a2
theorem xo_25 {N : Nat} {r V : RS} {x : Int32} (h : r.a 21 x.toNatClampNeg = 25) (g0 : f_X12_act N r x = some V) : f_X12_others N r x (r.a 22 x.toNatClampNeg) = some V := by
  have g := xa_ends (by rw [h]; decide) g0
  unfold f_X12_ends at g
  obtain ⟨-, g1⟩ := hf_ite g
  rw [if_neg (by rw [h]; decide), if_neg (by rw [h]; decide), if_neg (by rw [h]; decide), if_neg (by rw [h]; decide), if_neg (by rw [h]; decide), if_neg (by rw [h]; decide), if_neg (by rw [h]; decide), if_neg (by rw [h]; decide), if_pos h] at g1
  obtain ⟨A, a1, a2⟩ := hf_bind g1
  rw [a1]
  exact a2
theorem xo_31 {N : Nat} {r V : RS} {x : Int32} (h : r.a 21 x.toNatClampNeg = 31) (g0 : f_X12_act N r x = some V) : f_X12_others N r x (r.a 22 x.toNatClampNeg) = some V := by
  have g := xa_ends (by rw [h]; decide) g0
  unfold f_X12_ends at g
  obtain ⟨-, g1⟩ := hf_ite g
  rw [if_neg (by rw [h]; decide), if_neg (by rw [h]; decide), if_neg (by rw [h]; decide), if_neg (by rw [h]; decide), if_neg (by rw [h]; decide), if_neg (by rw [h]; decide), if_neg (by rw [h]; decide), if_neg (by rw [h]; decide), if_neg (by rw [h]; decide), if_neg (by rw [h]; decide), if_neg (by rw [h]; decide), if_neg (by rw [h]; decide), if_neg (by rw [h]; decide), if_neg (by rw [h]; decide), if_pos h] at g1
  obtain ⟨A, a1, a2⟩ := hf_bind g1
  rw [a1]
  exact a2
theorem xo_32 {N : Nat} {r V : RS} {x : Int32} (h : r.a 21 x.toNatClampNeg = 32) (g0 : f_X12_act N r x = some V) : f_X12_others N r x (r.a 22 x.toNatClampNeg) = some V := by
  have g := xa_ends (by rw [h]; decide) g0
  unfold f_X12_ends at g
  obtain ⟨-, g1⟩ := hf_ite g
  rw [if_neg (by rw [h]; decide), if_neg (by rw [h]; decide), if_neg (by rw [h]; decide), if_neg (by rw [h]; decide), if_neg (by rw [h]; decide), if_neg (by rw [h]; decide), if_neg (by rw [h]; decide), if_neg (by rw [h]; decide), if_neg (by rw [h]; decide), if_neg (by rw [h]; decide), if_neg (by rw [h]; decide), if_neg (by rw [h]; decide), if_neg (by rw [h]; decide), if_neg (by rw [h]; decide), if_neg (by rw [h]; decide), if_pos h] at g1
  obtain ⟨A, a1, a2⟩ := hf_bind g1
  rw [a1]
  exact a2
theorem xo_33 {N : Nat} {r V : RS} {x : Int32} (h : r.a 21 x.toNatClampNeg = 33) (g0 : f_X12_act N r x = some V) : f_X12_others N r x (r.a 22 x.toNatClampNeg) = some V := by
  have g := xa_ends (by rw [h]; decide) g0
  unfold f_X12_ends at g
  obtain ⟨-, g1⟩ := hf_ite g
  rw [if_neg (by rw [h]; decide), if_neg (by rw [h]; decide), if_neg (by rw [h]; decide), if_neg (by rw [h]; decide), if_neg (by rw [h]; decide), if_neg (by rw [h]; decide), if_neg (by rw [h]; decide), if_neg (by rw [h]; decide), if_neg (by rw [h]; decide), if_neg (by rw [h]; decide), if_neg (by rw [h]; decide), if_neg (by rw [h]; decide), if_neg (by rw [h]; decide), if_neg (by rw [h]; decide), if_neg (by rw [h]; decide), if_neg (by rw [h]; decide), if_pos h] at g1
  obtain ⟨A, a1, a2⟩ := hf_bind g1
  rw [a1]
  exact a2
theorem xo_34 {N : Nat} {r V : RS} {x : Int32} (h : r.a 21 x.toNatClampNeg = 34) (g0 : f_X12_act N r x = some V) : f_X12_others N r x (r.a 22 x.toNatClampNeg) = some V := by
  have g := xa_ends (by rw [h]; decide) g0
  unfold f_X12_ends at g
  obtain ⟨-, g1⟩ := hf_ite g
  rw [if_neg (by rw [h]; decide), if_neg (by rw [h]; decide), if_neg (by rw [h]; decide), if_neg (by rw [h]; decide), if_neg (by rw [h]; decide), if_neg (by rw [h]; decide), if_neg (by rw [h]; decide), if_neg (by rw [h]; decide), if_neg (by rw [h]; decide), if_neg (by rw [h]; decide), if_neg (by rw [h]; decide), if_neg (by rw [h]; decide), if_neg (by rw [h]; decide), if_neg (by rw [h]; decide), if_neg (by rw [h]; decide), if_neg (by rw [h]; decide), if_neg (by rw [h]; decide), if_pos h] at g1
  obtain ⟨A, a1, a2⟩ := hf_bind g1
  rw [a1]
  exact a2
theorem xo_35 {N : Nat} {r V : RS} {x : Int32} (h : r.a 21 x.toNatClampNeg = 35) (g0 : f_X12_act N r x = some V) : f_X12_others N r x (r.a 22 x.toNatClampNeg) = some V := by
  have g := xa_ends (by rw [h]; decide) g0
  unfold f_X12_ends at g
  obtain ⟨-, g1⟩ := hf_ite g
  rw [if_neg (by rw [h]; decide), if_neg (by rw [h]; decide), if_neg (by rw [h]; decide), if_neg (by rw [h]; decide), if_neg (by rw [h]; decide), if_neg (by rw [h]; decide), if_neg (by rw [h]; decide), if_neg (by rw [h]; decide), if_neg (by rw [h]; decide), if_neg (by rw [h]; decide), if_neg (by rw [h]; decide), if_neg (by rw [h]; decide), if_neg (by rw [h]; decide), if_neg (by rw [h]; decide), if_neg (by rw [h]; decide), if_neg (by rw [h]; decide), if_neg (by rw [h]; decide), if_neg (by rw [h]; decide), if_pos h] at g1
  obtain ⟨A, a1, a2⟩ := hf_bind g1
  rw [a1]
  exact a2
theorem xp_23 {N : Nat} {r V : RS} {x : Int32} (h : r.a 21 x.toNatClampNeg = 23) (g0 : f_X12_act N r x = some V) : f_X12_others_85 N N r (r.a 22 x.toNatClampNeg) (r.i 97) 0 = some V := by
  have g := xo_23 h g0
  unfold f_X12_others at g
  obtain ⟨-, g1⟩ := hf_ite g
  rw [if_pos h] at g1
  exact g1
theorem xp_24 {N : Nat} {r V : RS} {x : Int32} (h : r.a 21 x.toNatClampNeg = 24) (g0 : f_X12_act N r x = some V) : (r.a 102 (r.i 99 - 1).toNatClampNeg = r.a 103 (r.i 99 - 1).toNatClampNeg ∧ V = RS.setI r 92 (r.a 22 x.toNatClampNeg)) ∨ (¬ r.a 102 (r.i 99 - 1).toNatClampNeg = r.a 103 (r.i 99 - 1).toNatClampNeg ∧ ∃ P : RS, f_X12_step N r = some P ∧ V = RS.setA (RS.setA P 84 (P.a 23 x.toNatClampNeg).toNatClampNeg (P.a 98 (P.a 102 (r.i 99 - 1).toNatClampNeg).toNatClampNeg)) 102 (r.i 99 - 1).toNatClampNeg (P.a 102 (r.i 99 - 1).toNatClampNeg + 1)) := by
  have g := xo_24 h g0
  unfold f_X12_others at g
  obtain ⟨-, g1⟩ := hf_ite g
  rw [if_neg (by rw [h]; decide), if_pos h] at g1
  obtain ⟨-, g2⟩ := hf_ite g1
  by_cases c : r.a 102 (r.i 99 - 1).toNatClampNeg = r.a 103 (r.i 99 - 1).toNatClampNeg
  · rw [if_pos c] at g2
    exact Or.inl ⟨c, (Option.some.inj g2).symm⟩
  · rw [if_neg c] at g2
    obtain ⟨P, p1, p2⟩ := hf_bind g2
    exact Or.inr ⟨c, P, p1, (Option.some.inj (hf_ite (hf_ite p2).2).2).symm⟩
theorem xp_25 {N : Nat} {r V : RS} {x : Int32} (h : r.a 21 x.toNatClampNeg = 25) (g0 : f_X12_act N r x = some V) : V = RS.setI (RS.setI r 97 (r.a 101 (r.i 99 - 1).toNatClampNeg)) 99 (r.i 99 - 1) := by
  have g := xo_25 h g0
  unfold f_X12_others at g
  obtain ⟨-, g1⟩ := hf_ite g
  rw [if_neg (by rw [h]; decide), if_neg (by rw [h]; decide), if_pos h] at g1
  exact (Option.some.inj (hf_ite g1).2).symm
theorem xp_31 {N : Nat} {r V : RS} {x : Int32} (h : r.a 21 x.toNatClampNeg = 31) (g0 : f_X12_act N r x = some V) : ∃ P : Int32 × RS, f_X12_record N r 4 (r.a 22 x.toNatClampNeg) 0 (r.i 95) = some P ∧ V = P.2 := by
  have g := xo_31 h g0
  unfold f_X12_others at g
  obtain ⟨-, g1⟩ := hf_ite g
  rw [if_neg (by rw [h]; decide), if_neg (by rw [h]; decide), if_neg (by rw [h]; decide), if_neg (by rw [h]; decide), if_neg (by rw [h]; decide), if_neg (by rw [h]; decide), if_neg (by rw [h]; decide), if_neg (by rw [h]; decide), if_pos h] at g1
  obtain ⟨P, p1, p2⟩ := hf_bind g1
  exact ⟨P, p1, (Option.some.inj p2).symm⟩
theorem xp_32 {N : Nat} {r V : RS} {x : Int32} (h : r.a 21 x.toNatClampNeg = 32) (g0 : f_X12_act N r x = some V) : ib (r.a 22 x.toNatClampNeg) 8 ∧ ((r.a 6 (r.a 22 x.toNatClampNeg).toNatClampNeg ≤ 0 ∧ r.a 5 (r.a 22 x.toNatClampNeg).toNatClampNeg = 0 ∧ ∃ P : RS, f_X12_row N r 1 (r.a 22 x.toNatClampNeg) = some P ∧ V = RS.setI (RS.setA P 96 (P.i 95).toNatClampNeg (r.a 22 x.toNatClampNeg)) 95 (P.i 95 + 1)) ∨ (r.a 6 (r.a 22 x.toNatClampNeg).toNatClampNeg ≤ 0 ∧ ¬ r.a 5 (r.a 22 x.toNatClampNeg).toNatClampNeg = 0 ∧ V = r) ∨ (¬ r.a 6 (r.a 22 x.toNatClampNeg).toNatClampNeg ≤ 0 ∧ ∃ P : RS, f_X12_raise N r (r.a 6 (r.a 22 x.toNatClampNeg).toNatClampNeg - 1) (r.a 22 x.toNatClampNeg) = some P ∧ f_X12_leave N P = some V)) := by
  have g := xo_32 h g0
  unfold f_X12_others at g
  obtain ⟨-, g1⟩ := hf_ite g
  rw [if_neg (by rw [h]; decide), if_neg (by rw [h]; decide), if_neg (by rw [h]; decide), if_neg (by rw [h]; decide), if_neg (by rw [h]; decide), if_neg (by rw [h]; decide), if_neg (by rw [h]; decide), if_neg (by rw [h]; decide), if_neg (by rw [h]; decide), if_pos h] at g1
  obtain ⟨i8, g2⟩ := hf_ite g1
  refine ⟨i8, ?_⟩
  by_cases c : r.a 6 (r.a 22 x.toNatClampNeg).toNatClampNeg ≤ 0
  · rw [if_pos c] at g2
    by_cases c2 : r.a 5 (r.a 22 x.toNatClampNeg).toNatClampNeg = 0
    · rw [if_pos c2] at g2
      obtain ⟨P, p1, p2⟩ := hf_bind g2
      exact Or.inl ⟨c, c2, P, p1, (Option.some.inj (hf_ite p2).2).symm⟩
    · rw [if_neg c2] at g2
      exact Or.inr (Or.inl ⟨c, c2, (Option.some.inj g2).symm⟩)
  · rw [if_neg c] at g2
    obtain ⟨P, p1, p2⟩ := hf_bind g2
    obtain ⟨Q, q1, q2⟩ := hf_bind p2
    refine Or.inr (Or.inr ⟨c, P, p1, ?_⟩)
    rw [q1]
    exact q2
theorem xp_33 {N : Nat} {r V : RS} {x : Int32} (h : r.a 21 x.toNatClampNeg = 33) (g0 : f_X12_act N r x = some V) : ∃ P : RS, f_X12_closeAll N (RS.setI r 110 0) (r.i 99 - 1) = some P ∧ ((P.i 110 = 3 ∧ f_X12_leave N P = some V) ∨ (¬ P.i 110 = 3 ∧ f_X12_goOn N P (r.i 99 - 1) = some V)) := by
  have g := xo_33 h g0
  unfold f_X12_others at g
  obtain ⟨-, g1⟩ := hf_ite g
  rw [if_neg (by rw [h]; decide), if_neg (by rw [h]; decide), if_neg (by rw [h]; decide), if_neg (by rw [h]; decide), if_neg (by rw [h]; decide), if_neg (by rw [h]; decide), if_neg (by rw [h]; decide), if_neg (by rw [h]; decide), if_neg (by rw [h]; decide), if_neg (by rw [h]; decide), if_pos h] at g1
  obtain ⟨P, p1, p2⟩ := hf_bind g1
  refine ⟨P, p1, ?_⟩
  by_cases c : P.i 110 = 3
  · rw [if_pos c] at p2
    obtain ⟨Q, q1, q2⟩ := hf_bind p2
    refine Or.inl ⟨c, ?_⟩
    rw [q1]
    exact q2
  · rw [if_neg c] at p2
    obtain ⟨Q, q1, q2⟩ := hf_bind p2
    refine Or.inr ⟨c, ?_⟩
    rw [q1]
    exact q2
theorem xp_34 {N : Nat} {r V : RS} {x : Int32} (h : r.a 21 x.toNatClampNeg = 34) (g0 : f_X12_act N r x = some V) : f_X12_goOn N (RS.setI r 110 0) (r.i 99 - 1) = some V := by
  have g := xo_34 h g0
  unfold f_X12_others at g
  obtain ⟨-, g1⟩ := hf_ite g
  rw [if_neg (by rw [h]; decide), if_neg (by rw [h]; decide), if_neg (by rw [h]; decide), if_neg (by rw [h]; decide), if_neg (by rw [h]; decide), if_neg (by rw [h]; decide), if_neg (by rw [h]; decide), if_neg (by rw [h]; decide), if_neg (by rw [h]; decide), if_neg (by rw [h]; decide), if_neg (by rw [h]; decide), if_pos h] at g1
  obtain ⟨Q, q1, q2⟩ := hf_bind g1
  rw [q1]
  exact q2
/-- behind a finally -/
def rRs (r : RS) : RS := RS.setI (RS.setI (RS.setI (RS.setI (RS.setI (RS.setI r 110 (r.a 105 (r.i 99 - 1).toNatClampNeg)) 111 (r.a 106 (r.i 99 - 1).toNatClampNeg)) 112 (r.a 107 (r.i 99 - 1).toNatClampNeg)) 113 (r.a 108 (r.i 99 - 1).toNatClampNeg)) 114 (r.a 109 (r.i 99 - 1).toNatClampNeg)) 99 (r.i 99 - 1)
theorem xp_35 {N : Nat} {r V : RS} {x : Int32} (h : r.a 21 x.toNatClampNeg = 35) (g0 : f_X12_act N r x = some V) : (r.a 105 (r.i 99 - 1).toNatClampNeg = 0 ∧ V = rRs r) ∨ (¬ r.a 105 (r.i 99 - 1).toNatClampNeg = 0 ∧ f_X12_leave N (rRs r) = some V) := by
  have g := xo_35 h g0
  unfold f_X12_others at g
  obtain ⟨-, g1⟩ := hf_ite g
  rw [if_neg (by rw [h]; decide), if_neg (by rw [h]; decide), if_neg (by rw [h]; decide), if_neg (by rw [h]; decide), if_neg (by rw [h]; decide), if_neg (by rw [h]; decide), if_neg (by rw [h]; decide), if_neg (by rw [h]; decide), if_neg (by rw [h]; decide), if_neg (by rw [h]; decide), if_neg (by rw [h]; decide), if_neg (by rw [h]; decide)] at g1
  obtain ⟨-, g2⟩ := hf_ite g1
  by_cases c : r.a 105 (r.i 99 - 1).toNatClampNeg = 0
  · rw [if_pos c] at g2
    exact Or.inl ⟨c, (Option.some.inj g2).symm⟩
  · rw [if_neg c] at g2
    obtain ⟨Q, q1, q2⟩ := hf_bind g2
    refine Or.inr ⟨c, ?_⟩
    unfold rRs
    rw [q1]
    exact q2
theorem xp_26 {N : Nat} {r V : RS} {x : Int32} (h : r.a 21 x.toNatClampNeg = 26) (g0 : f_X12_act N r x = some V) : ∃ (P : RS) (Q : Int32 × RS), f_X12_row N r 3 (r.a 22 x.toNatClampNeg) = some P ∧ ib (r.a 22 x.toNatClampNeg) 8 ∧ f_X12_record N (RS.setA P 91 (r.a 22 x.toNatClampNeg).toNatClampNeg (P.a 91 (r.a 22 x.toNatClampNeg).toNatClampNeg + 1)) 1 (r.a 22 x.toNatClampNeg) 0 0 = some Q ∧ V = Q.2 := by
  have g := xa_ends (by rw [h]; decide) g0
  unfold f_X12_ends at g
  obtain ⟨-, g1⟩ := hf_ite g
  rw [if_neg (by rw [h]; decide), if_neg (by rw [h]; decide), if_neg (by rw [h]; decide), if_neg (by rw [h]; decide), if_neg (by rw [h]; decide), if_neg (by rw [h]; decide), if_neg (by rw [h]; decide), if_neg (by rw [h]; decide), if_neg (by rw [h]; decide), if_pos h] at g1
  obtain ⟨P, p1, p2⟩ := hf_bind g1
  obtain ⟨i8, p3⟩ := hf_ite p2
  obtain ⟨Q, q1, q2⟩ := hf_bind p3
  exact ⟨P, Q, p1, i8, q1, (Option.some.inj q2).symm⟩
theorem xp_27 {N : Nat} {r V : RS} {x : Int32} (h : r.a 21 x.toNatClampNeg = 27) (g0 : f_X12_act N r x = some V) : ∃ P : RS, f_X12_row N (RS.setI r 99 (r.i 99 - 1)) 4 (r.a 101 (r.i 99 - 1).toNatClampNeg) = some P ∧ ib (P.a 101 (P.i 99).toNatClampNeg) 8 ∧ V = RS.setA P 91 (P.a 101 (P.i 99).toNatClampNeg).toNatClampNeg (P.a 91 (P.a 101 (P.i 99).toNatClampNeg).toNatClampNeg - 1) := by
  have g := xa_ends (by rw [h]; decide) g0
  unfold f_X12_ends at g
  obtain ⟨-, g1⟩ := hf_ite g
  rw [if_neg (by rw [h]; decide), if_neg (by rw [h]; decide), if_neg (by rw [h]; decide), if_neg (by rw [h]; decide), if_neg (by rw [h]; decide), if_neg (by rw [h]; decide), if_neg (by rw [h]; decide), if_neg (by rw [h]; decide), if_neg (by rw [h]; decide), if_neg (by rw [h]; decide), if_pos h] at g1
  obtain ⟨-, g2⟩ := hf_ite g1
  obtain ⟨P, p1, p2⟩ := hf_bind g2
  obtain ⟨-, p3⟩ := hf_ite p2
  obtain ⟨i8, p4⟩ := hf_ite p3
  exact ⟨P, p1, i8, (Option.some.inj p4).symm⟩
theorem xp_28 {N : Nat} {r V : RS} {x : Int32} (h : r.a 21 x.toNatClampNeg = 28) (g0 : f_X12_act N r x = some V) : ∃ Q : Int32 × RS, f_X12_caseOf N (rPo r) (r.a 22 x.toNatClampNeg) (rTp r) = some Q ∧ ((0 ≤ Q.1 ∧ V = RS.setI Q.2 92 (Q.2.a 26 Q.1.toNatClampNeg)) ∨ (¬ 0 ≤ Q.1 ∧ V = RS.setI Q.2 92 (Q.2.a 23 x.toNatClampNeg))) := by
  have g := xa_ends (by rw [h]; decide) g0
  unfold f_X12_ends at g
  obtain ⟨-, g1⟩ := hf_ite g
  rw [if_neg (by rw [h]; decide), if_neg (by rw [h]; decide), if_neg (by rw [h]; decide), if_neg (by rw [h]; decide), if_neg (by rw [h]; decide), if_neg (by rw [h]; decide), if_neg (by rw [h]; decide), if_neg (by rw [h]; decide), if_neg (by rw [h]; decide), if_neg (by rw [h]; decide), if_neg (by rw [h]; decide), if_pos h] at g1
  unfold f_X12_ends_351 at g1
  obtain ⟨A, a1, a2⟩ := hf_bind g1
  rw [e_rPo a1] at a2
  obtain ⟨Q, q1, q2⟩ := hf_bind a2
  refine ⟨Q, q1, ?_⟩
  by_cases c : 0 ≤ Q.1
  · rw [if_pos c] at q2
    exact Or.inl ⟨c, (Option.some.inj (hf_ite q2).2).symm⟩
  · rw [if_neg c] at q2
    exact Or.inr ⟨c, (Option.some.inj q2).symm⟩
theorem xp_29 {N : Nat} {r V : RS} {x : Int32} (h : r.a 21 x.toNatClampNeg = 29) (g0 : f_X12_act N r x = some V) : ∃ (Q : Int32 × RS) (P : Int32 × RS), f_X12_caseOf N (rPo r) (r.a 22 x.toNatClampNeg) (rTp r) = some Q ∧ f_X12_record N Q.2 3 x 0 0 = some P ∧ ib Q.1 500 ∧ V = RS.setI P.2 92 (P.2.a 26 Q.1.toNatClampNeg) := by
  have g := xa_ends (by rw [h]; decide) g0
  unfold f_X12_ends at g
  obtain ⟨-, g1⟩ := hf_ite g
  rw [if_neg (by rw [h]; decide), if_neg (by rw [h]; decide), if_neg (by rw [h]; decide), if_neg (by rw [h]; decide), if_neg (by rw [h]; decide), if_neg (by rw [h]; decide), if_neg (by rw [h]; decide), if_neg (by rw [h]; decide), if_neg (by rw [h]; decide), if_neg (by rw [h]; decide), if_neg (by rw [h]; decide), if_neg (by rw [h]; decide), if_pos h] at g1
  obtain ⟨A, a1, a2⟩ := hf_bind g1
  rw [e_rPo a1] at a2
  obtain ⟨Q, q1, q2⟩ := hf_bind a2
  obtain ⟨P, p1, p2⟩ := hf_bind q2
  obtain ⟨i5, p3⟩ := hf_ite p2
  exact ⟨Q, P, q1, p1, i5, (Option.some.inj p3).symm⟩
theorem xp_30 {N : Nat} {r V : RS} {x : Int32} (h : r.a 21 x.toNatClampNeg = 30) (g0 : f_X12_act N r x = some V) : V = RS.setI (RS.setI r 99 (r.i 99 - 1)) 92 (r.a 23 (r.a 101 (r.i 99 - 1).toNatClampNeg).toNatClampNeg) := by
  have g := xa_ends (by rw [h]; decide) g0
  unfold f_X12_ends at g
  obtain ⟨-, g1⟩ := hf_ite g
  rw [if_neg (by rw [h]; decide), if_neg (by rw [h]; decide), if_neg (by rw [h]; decide), if_neg (by rw [h]; decide), if_neg (by rw [h]; decide), if_neg (by rw [h]; decide), if_neg (by rw [h]; decide), if_neg (by rw [h]; decide), if_neg (by rw [h]; decide), if_neg (by rw [h]; decide), if_neg (by rw [h]; decide), if_neg (by rw [h]; decide), if_neg (by rw [h]; decide), if_pos h] at g1
  exact (Option.some.inj (hf_ite (hf_ite g1).2).2).symm
/-- a record more -/
theorem rc_r {N k : Nat} {r : RS} {a b d e : Int32} {P : Int32 × RS} (h99 : (r.i 99).toInt = (k : Int)) (g : f_X12_record N r a b d e = some P) : k < 300 ∧ (∀ j : Nat, j ≠ 99 → P.2.i j = r.i j) ∧ (P.2.i 99).toInt = (k : Int) + 1 ∧ (∀ j : Nat, j ≠ 100 → j ≠ 101 → j ≠ 102 → j ≠ 103 → j ≠ 104 → P.2.a j = r.a j) ∧ (∀ j i : Nat, i ≠ k → P.2.a j i = r.a j i) ∧ (P.2.a 100 k = a ∧ P.2.a 101 k = b ∧ P.2.a 102 k = d ∧ P.2.a 103 k = e ∧ P.2.a 104 k = r.i 93) := by
  unfold f_X12_record at g
  obtain ⟨h3, g1⟩ := hf_ite g
  rw [cl_nat h99] at g1
  have k3 : k < 300 := by
    have := h3.2
    omega
  obtain ⟨Y, hY⟩ : ∃ Y, Y = RS.setA (RS.setA (RS.setA (RS.setA (RS.setA r 100 k a) 101 k b) 102 k d) 103 k e) 104 k (r.i 93) := ⟨_, rfl⟩
  have eP : P.2 = RS.setI Y 99 (r.i 99 + 1) := by
    rw [← Option.some.inj g1, hY]
  have yi : Y.i = r.i := by
    rw [hY]
    rfl
  have ya : ∀ j : Nat, j ≠ 100 → j ≠ 101 → j ≠ 102 → j ≠ 103 → j ≠ 104 → Y.a j = r.a j := fun j a1 a2 a3 a4 a5 => by
    rw [hY, setA_nk a5, setA_nk a4, setA_nk a3, setA_nk a2, setA_nk a1]
  have yn : ∀ j i : Nat, i ≠ k → Y.a j i = r.a j i := fun j i hi => by
    rw [hY, setA_ne hi, setA_ne hi, setA_ne hi, setA_ne hi, setA_ne hi]
  have y4 : Y.a 104 k = r.i 93 := by rw [hY, setA_at]
  have y3 : Y.a 103 k = e := by rw [hY, setA_nk (by decide), setA_at]
  have y2 : Y.a 102 k = d := by rw [hY, setA_nk (by decide), setA_nk (by decide), setA_at]
  have y1 : Y.a 101 k = b := by rw [hY, setA_nk (by decide), setA_nk (by decide), setA_nk (by decide), setA_at]
  have y0 : Y.a 100 k = a := by rw [hY, setA_nk (by decide), setA_nk (by decide), setA_nk (by decide), setA_nk (by decide), setA_at]
  rw [eP]
  clear eP hY
  refine ⟨k3, fun j hj => ?_, ?_, ya, yn, y0, y1, y2, y3, y4⟩
  · rw [ri_ne hj, yi]
  · rw [ri_at, ad1 (by omega) (by omega), h99]
end
section
/-! both machines: a frame and a record more -/
theorem en_f {X : CS} {x1 x2 x3 : Int32} {a : Nat} : (EN X x1 x2 x3 a).o a 2 = X.i 65 ∧ (EN X x1 x2 x3 a).oa = X.oa := by
  unfold EN
  refine ⟨?_, rfl⟩
  rw [co_setI, co_setOt, setO_k (by decide), setO_at]
theorem en_c {N : Nat} {s : CS} {d : Nat} {x1 x2 : Int32} {R : Unit × CS} (hd : (s.i 67).toInt = (d : Int)) (d21 : d ≤ 21) (e : f_X3_enter N s x1 x2 = some R) : ∃ f : Nat, R.2.r 61 d = some f ∧ (∀ j : Nat, j ≠ d → R.2.r 61 j = s.r 61 j) ∧ R.2.r 62 = s.r 62 ∧ (∀ j : Nat, j ≠ 67 → R.2.i j = s.i j) ∧ (R.2.i 67).toInt = (d : Int) + 1 ∧ (R.2.a = s.a ∧ R.2.w = s.w) ∧ (R.2.o f 0 = x1 ∧ R.2.o f 1 = x2 ∧ R.2.o f 2 = s.i 65 ∧ R.2.o f 3 = s.i 68) ∧ (∀ g : Nat, g ≠ f → g < s.hs → R.2.o g = s.o g ∧ R.2.ot g = s.ot g) ∧ (∀ g : Nat, g < s.hs → R.2.oa g = s.oa g) ∧ (s.r 61 d = some f ∨ f = s.hs) := by
  unfold f_X3_enter at e
  have e23 : (23 : Int32).toInt = 23 := by decide
  have ei : (if (23 : Int32) < s.i 67 then (23 : Int32) else s.i 67) = s.i 67 := if_neg (by rw [Int32.lt_iff_toInt_lt, e23]; omega)
  rw [ei, cl_nat hd] at e
  obtain ⟨-, e1⟩ := hf_ite e
  have ad : (s.i 67 + 1).toInt = (d : Int) + 1 := by rw [ad1 (by omega) (by omega), hd]
  cases hf : s.r 61 d with
  | none =>
    rw [hf] at e1
    have e2 : ((f_X2_init N (CS.new s 1) (CS.hs s)).bind fun p5 => if ib (s.i 67) 24 then if oK p5.2 (CS.hs s) 1 then f_X3_enter_45 N (CS.setR p5.2 61 d (some (CS.hs s))) x1 x2 (s.i 67) (CS.hs s) else none else none) = some R := e1
    unfold f_X2_init at e2
    rw [ob_some] at e2
    have e3 := (hf_ite (hf_ite e2).2).2
    unfold f_X3_enter_45 at e3
    have e4 := Option.some.inj (hf_ite e3).2
    obtain ⟨Y, hY⟩ : ∃ Y, Y = CS.setR (CS.new s 1) 61 d (some s.hs) := ⟨_, rfl⟩
    have eR : R.2 = EN Y x1 x2 (s.i 67) s.hs := by
      rw [← e4, hY]
      rfl
    have yr : Y.r 61 d = some s.hs := by
      rw [hY, cr_at]
      exact if_pos rfl
    have yr' : ∀ j : Nat, j ≠ d → Y.r 61 j = s.r 61 j := fun j hj => by
      rw [hY, cr_at]
      exact if_neg hj
    have yr2 : Y.r 62 = s.r 62 := by
      rw [hY, cr_ne _ _ _ _ (by decide), cr_new]
    have yi : Y.i = s.i := by
      rw [hY]
      rfl
    have ya : Y.a = s.a ∧ Y.w = s.w := by
      rw [hY]
      exact ⟨rfl, rfl⟩
    have yo : ∀ g : Nat, g < s.hs → Y.o g = s.o g ∧ Y.ot g = s.ot g ∧ Y.oa g = s.oa g := fun g hg => by
      rw [hY, co_setR, cot_setR, coa_setR, co_new _ _ (by omega), cot_new _ _ (by omega), coa_new _ _ (by omega)]
      exact ⟨rfl, rfl, rfl⟩
    clear hY
    obtain ⟨q1, -, -, q4, q5, -⟩ := EN.q (X := Y) (x1 := x1) (x2 := x2) (x3 := s.i 67) (a := s.hs)
    obtain ⟨w1, w2, w3, -⟩ := EN.oa (X := Y) (x1 := x1) (x2 := x2) (x3 := s.i 67) (a := s.hs)
    obtain ⟨w4, w5⟩ := en_f (X := Y) (x1 := x1) (x2 := x2) (x3 := s.i 67) (a := s.hs)
    rw [yi] at w3 w4
    rw [eR]
    refine ⟨s.hs, by rw [q4]; exact yr, fun j hj => by rw [q4]; exact yr' j hj, by rw [q4]; exact yr2, fun j hj => by rw [EN.ne hj, yi], by rw [EN.i67]; exact ad, ⟨q1.trans ya.1, q5.trans ya.2⟩, ⟨w1, w2, w4, w3⟩, fun g hg hl => ?_, fun g hl => by rw [w5]; exact (yo g hl).2.2, Or.inr rfl⟩
    obtain ⟨z1, z2⟩ := EN.o (X := Y) (x1 := x1) (x2 := x2) (x3 := s.i 67) (a := s.hs) hg
    exact ⟨z1.trans (yo g hl).1, z2.trans (yo g hl).2.1⟩
  | some f =>
    rw [hf] at e1
    have e2 : f_X3_enter_45 N s x1 x2 (s.i 67) f = some R := e1
    unfold f_X3_enter_45 at e2
    have e4 := Option.some.inj (hf_ite e2).2
    have eR : R.2 = EN s x1 x2 (s.i 67) f := by
      rw [← e4]
      rfl
    obtain ⟨q1, -, -, q4, q5, -⟩ := EN.q (X := s) (x1 := x1) (x2 := x2) (x3 := s.i 67) (a := f)
    obtain ⟨w1, w2, w3, -⟩ := EN.oa (X := s) (x1 := x1) (x2 := x2) (x3 := s.i 67) (a := f)
    obtain ⟨w4, w5⟩ := en_f (X := s) (x1 := x1) (x2 := x2) (x3 := s.i 67) (a := f)
    rw [eR]
    refine ⟨f, by rw [q4]; exact hf, fun j hj => by rw [q4], by rw [q4], fun j hj => EN.ne hj, by rw [EN.i67]; exact ad, ⟨q1, q5⟩, ⟨w1, w2, w4, w3⟩, fun g hg _ => EN.o hg, fun g _ => by rw [w5], Or.inl rfl⟩
/-- what lies below stays -/
theorem en_feq {s S : CS} {r V : RS} {mu : Nat → Nat} {c : List Ent} {m : Int} {f : Nat} (hr : REFS s) (d21 : frs c ≤ 21) (r61 : ∀ j : Nat, j ≠ frs c → S.r 61 j = s.r 61 j) (r62 : S.r 62 = s.r 62) (ea : S.a 17 = s.a 17 ∧ S.a 59 = s.a 59) (eo : ∀ g : Nat, g ≠ f → g < s.hs → S.o g = s.o g ∧ S.ot g = s.ot g) (eoa : ∀ g : Nat, g < s.hs → S.oa g = s.oa g) (ff : s.r 61 (frs c) = some f ∨ f = s.hs) (gi : V.i 85 = r.i 85 ∧ V.i 3 = r.i 3) (ga : ∀ j : Nat, j ≠ 82 → j ≠ 83 → j ≠ 91 → j < 99 → V.a j = r.a j) (gr : ∀ j i : Nat, 100 ≤ j → j ≤ 109 → i < c.length → V.a j i = r.a j i) : FEQ s S r V mu mu c m ∧ ∀ b : Nat, TLV s r mu b → TLV S V mu b := by
  have tlv : ∀ b : Nat, TLV s r mu b → TLV S V mu b := fun b t => by
    obtain ⟨j, j1, j2⟩ := t.2.2.1
    obtain ⟨l1, l2, l3⟩ := hr.2.2.2.2.2.1 j b j1 j2
    have m1 := hr.1 _ l1.1
    have m2 := hr.1 _ l2.1
    have m3 := hr.1 _ l3.1
    have nb : b ≠ f := fun q => by
      rcases ff with ff | ff
      · have fk := hr.2.2.2.1 (frs c) f (by omega) ff
        have l1k := l1.2
        rw [q, fk.2] at l1k
        exact absurd l1k (by decide)
      · omega
    refine TLV.of (eo b nb m1).1 (eoa _ m2) (eoa _ m3) (fun q => ?_) (by rw [gi.1]; exact Int.le_refl _) ?_ ?_ ?_ (fun i _ => ?_) (fun i _ => ?_) gi.2 t
    · unfold inP at *
      rw [r62]
      exact q
    all_goals rw [ga _ (by decide) (by decide) (by decide) (by decide)]
  refine ⟨⟨fun i g hi hg => ?_, fun b _ t => ⟨tlv b t, rfl, by rw [ga 87 (by decide) (by decide) (by decide) (by decide)]⟩, ⟨ea.1, ga 21 (by decide) (by decide) (by decide) (by decide), ga 23 (by decide) (by decide) (by decide) (by decide), ga 31 (by decide) (by decide) (by decide) (by decide), ga 32 (by decide) (by decide) (by decide) (by decide)⟩, gr, fun a _ => ⟨fun k _ => by rw [ea.2], fun l _ => by rw [ga 84 (by decide) (by decide) (by decide) (by decide)]⟩, fun j _ => by rw [ga 98 (by decide) (by decide) (by decide) (by decide)]⟩, tlv⟩
  have gk := hr.2.2.2.1 i g (by omega) hg
  have ng : g ≠ f := fun q => by
    rcases ff with ff | ff
    · rw [q] at hg
      have := hr.2.2.2.2.1 i (frs c) f (by omega) (by omega) hg ff
      omega
    · have := hr.1 g gk.1
      omega
  exact ⟨by rw [r61 i (by omega)]; exact hg, eo g ng (hr.1 g gk.1)⟩
/-- LOCK, TAKE -/
def UTak (s0 : CS) (r0 : RS) (AL : Als) (p q h w g : Nat) (c : List Ent) : Prop := s0.a 15 p = 53 ∧ r0.a 21 q = 26 ∧ s0.a 16 p = r0.a 22 q ∧ g = 1 ∧ frs c ≤ 21 ∧ NXW AL (p + 1) (q + 1) h w 1 0 ((0, h, 0, 0, 0, 0, 0) :: c)
theorem xi_53 {N : Nat} {s : CS} {R : Unit × CS} (h : cOp s = 53) (e : f_X3_instruction N s = some R) : ∃ P : Unit × CS, f_X3_enter N (cNx s) 0 (cAr s) = some P ∧ f_X3_note N (CS.setI P.2 71 (P.2.i 71 + 1)) 3 (cAr s) = some R := by
  have z := xi_act (by rw [h]; decide) (by rw [h]; decide) (by rw [h]; decide) (by rw [h]; decide) e
  rw [h] at z
  unfold f_X3_act at z
  rw [if_neg (by decide), if_neg (by decide), if_pos rfl] at z
  obtain ⟨P, p1, p2⟩ := hf_bind z
  exact ⟨P, p1, ob_un p2⟩
theorem xi_54 {N : Nat} {s : CS} {R : Unit × CS} (h : cOp s = 54) (e : f_X3_instruction N s = some R) : f_X3_enter N (cNx s) 1 (cAr s) = some R := by
  have z := xi_act (by rw [h]; decide) (by rw [h]; decide) (by rw [h]; decide) (by rw [h]; decide) e
  rw [h] at z
  unfold f_X3_act at z
  rw [if_neg (by decide), if_neg (by decide), if_neg (by decide), if_pos rfl] at z
  exact ob_un z
theorem xi_55 {N : Nat} {s : CS} {R : Unit × CS} (h : cOp s = 55) (e : f_X3_instruction N s = some R) : f_X3_openOne N (cNx s) (cAr s) = some R := by
  have z := xi_act (by rw [h]; decide) (by rw [h]; decide) (by rw [h]; decide) (by rw [h]; decide) e
  rw [h] at z
  unfold f_X3_act at z
  rw [if_neg (by decide), if_neg (by decide), if_neg (by decide), if_neg (by decide), if_pos rfl] at z
  exact ob_un z
theorem u_tak {N H n : Nat} (hN : 10000000000 ≤ N) {D : Nat → List Nat} {T : Int32 × CS} {s0 : CS} {r0 : RS} {nm : Nat → Nat → Prop} {AL : Als} {s : CS} {r : RS} {mu : Nat → Nat} {h p q w g : Nat} {c : List Ent} {x : Int32} {U : Int32 × RS} (hct : HCT nm AL) (pt : PTX N H D T s0 r0 nm AL s r mu h p q w g c x) (hq : (q : Int) < (r0.i 20).toInt) (u : UTak s0 r0 AL p q h w g c) (e : f_X12_run_122 N n r = some U) : NXTW N H D T s0 r0 nm AL n U := by
  obtain ⟨u1, u2, u3, ug, u4, w', u5, u6⟩ := u
  obtain ⟨m, S, V, hn, ⟨e1, e2, e3, e4⟩, ⟨v1, v2, v3⟩, ⟨o1, o2⟩, oc, ⟨hp, hq3⟩, x1⟩ := pt_tick hN hct pt hq (by omega) e
  have rf := pt.2.1
  have h21 : r.a 21 q = r0.a 21 q := by rw [rf.2 21 (by decide)]
  have h22 : r.a 22 q = r0.a 22 q := by rw [rf.2 22 (by decide)]
  obtain ⟨p1, p2, ⟨mc, p4, p5⟩, p6, p7, p8⟩ := pt
  obtain ⟨t1, t2, t3⟩ := un_nx mc (by omega) (by omega)
  obtain ⟨-, ck, -⟩ := hct _ _ _ _ _ _ p7
  obtain ⟨⟨d1, ⟨d2, d2'⟩, d3, ⟨d4, d5⟩, d6, d7⟩, ⟨q1, q2, q3, q4, q5, q6⟩⟩ := p4.ex ck t2 t3
  have tr := p5.ex t2 t3
  have pv : PV s (cNx s) := PV.cnx s
  have hr : REFS (cNx s) := pv.refs p1.1.1
  obtain ⟨E, a1, a2⟩ := xi_53 (o1.trans u1) e1
  obtain ⟨P, Q, b1, b2, b3, b4⟩ := xp_26 (r := rNx r) (by rw [mc.clq]; exact h21.trans u2) v1
  have ex : (rNx r).a 22 (r.i 92).toNatClampNeg = cAr s := by
    rw [mc.clq, o2, u3]
    exact h22
  rw [ex] at b1 b2 b3
  obtain ⟨f, f1, f2, f3, f4, f5, ⟨f6, f6'⟩, ⟨f7, f8, f9, f10⟩, f11, f12, f13⟩ := en_c d2 u4 a1
  -- the rows of the trace
  obtain ⟨X, hX⟩ : ∃ X, X = CS.setI E.2 71 (E.2.i 71 + 1) := ⟨_, rfl⟩
  rw [← hX] at a2
  have Xi : ∀ j : Nat, j ≠ 71 → X.i j = E.2.i j := fun j a => by rw [hX, ci_ne _ _ _ a]
  have X71 : X.i 71 = E.2.i 71 + 1 := by rw [hX, ci_at]
  have Xs : X.a = E.2.a ∧ X.r = E.2.r ∧ X.o = E.2.o ∧ X.ot = E.2.ot ∧ X.oa = E.2.oa := by
    rw [hX]
    exact ⟨rfl, rfl, rfl, rfl, rfl⟩
  clear hX
  obtain ⟨X1, X2, X3, X4, X5⟩ := Xs
  have m0 : MTR X (rNx r) := t1.2.2.1.of ((Xi 69 (by decide)).trans (f4 69 (by decide))) ((Xi 70 (by decide)).trans (f4 70 (by decide))) (by rw [X1, f6]) rfl rfl rfl rfl
  obtain ⟨n1, n2, n3, ⟨n4, n5, n6, n7, n8⟩, n9, n10⟩ := m0.note a2 b1
  -- the lock is counted
  obtain ⟨k8, hk8⟩ : ∃ k : Nat, (cAr s).toInt = (k : Int) := ⟨(cAr s).toInt.toNat, by have := b2.1; omega⟩
  have k8' : k8 < 8 := by have := b2.2; omega
  rw [cl_nat hk8] at b3
  obtain ⟨R1, hR1⟩ : ∃ R1, R1 = RS.setA P 91 k8 (P.a 91 k8 + 1) := ⟨_, rfl⟩
  rw [← hR1] at b3
  have R1i : R1.i = P.i := by
    rw [hR1]
    rfl
  have R1a : ∀ j : Nat, j ≠ 91 → R1.a j = P.a j := fun j a => by
    rw [hR1]
    exact setA_nk (s := P) a
  have R91 : R1.a 91 k8 = P.a 91 k8 + 1 := by rw [hR1, setA_at]
  have R91' : ∀ j : Nat, j ≠ k8 → R1.a 91 j = P.a 91 j := fun j a => by rw [hR1, setA_ne a]
  clear hR1
  have i99 : (R1.i 99).toInt = (c.length : Int) := by
    rw [R1i, n9 99 (by decide)]
    exact d2'
  obtain ⟨c1, c2, c3, c4, c5, c6, c7, c8, c9, c10⟩ := rc_r i99 b3
  rw [← b4] at c2 c3 c4 c5 c6 c7 c8 c9 c10
  have Vi : ∀ j : Nat, j ≠ 81 → j ≠ 99 → V.i j = (rNx r).i j := fun j a b => by rw [c2 j b, R1i, n9 j a]
  have Va : ∀ j : Nat, j ≠ 82 → j ≠ 83 → j ≠ 91 → j ≠ 100 → j ≠ 101 → j ≠ 102 → j ≠ 103 → j ≠ 104 → V.a j = (rNx r).a j := fun j z1 z2 z3 z4 z5 z6 z7 z8 => by rw [c4 j z4 z5 z6 z7 z8, R1a j z3, n10 j z1 z2]
  have V91 : V.a 91 = R1.a 91 := c4 91 (by decide) (by decide) (by decide) (by decide) (by decide)
  have p91 : P.a 91 = (rNx r).a 91 := n10 91 (by decide) (by decide)
  have hs : hS V 8 = hS (rNx r) 8 + 1 := (hS_dec (r := rNx r) (R := V) (m := k8) (v := 1) (by rw [V91, R91, p91]) (fun j a => by rw [V91, R91' j a, p91]) 8).2 k8'
  have Si : ∀ j : Nat, j ≠ 67 → j ≠ 69 → j ≠ 71 → S.i j = (cNx s).i j := fun j z1 z2 z3 => by
    have q := n2 j z2
    rw [Xi j z3, f4 j z1] at q
    exact q
  have S67 : (S.i 67).toInt = (frs c : Int) + 1 := by
    have q := n2 67 (by decide)
    rw [Xi 67 (by decide)] at q
    have q' : S.i 67 = E.2.i 67 := q
    rw [q']
    exact f5
  have S71 : S.i 71 = s.i 71 + 1 := by
    have q := n2 71 (by decide)
    rw [X71, f4 71 (by decide), cNx_i (by decide)] at q
    exact q
  have Sa : ∀ k : Nat, k ≠ 64 → S.a k = (cNx s).a k := fun k a => by
    have q := n3 k a
    rw [X1, f6] at q
    exact q
  have Sr : S.r = E.2.r := by
    have q := n4
    rw [X2] at q
    exact q
  have So : S.o = E.2.o := by
    have q := n6
    rw [X3] at q
    exact q
  have St : S.ot = E.2.ot := by
    have q := n7
    rw [X4] at q
    exact q
  have Soa : S.oa = E.2.oa := by
    have q := n8
    rw [X5] at q
    exact q
  obtain ⟨feq, tlv⟩ := en_feq (s := cNx s) (S := S) (r := rNx r) (V := V) (mu := mu) (m := ((rNx r).i 97).toInt) hr u4 (fun j a => by rw [Sr]; exact f2 j a) (by rw [Sr]; exact f3) ⟨Sa 17 (by decide), Sa 59 (by decide)⟩ (fun g' a b => by rw [So, St]; exact f11 g' a b) (fun g' a => by rw [Soa]; exact f12 g' a) f13 ⟨Vi 85 (by decide) (by decide), Vi 3 (by decide) (by decide)⟩ (fun j z1 z2 z3 z4 => Va j z1 z2 z3 (by omega) (by omega) (by omega) (by omega) (by omega)) (fun j i z1 z2 z3 => by rw [c5 j i (by omega), R1a j (by omega), n10 j (by omega) (by omega)])
  have S72 : S.i 72 = -1 := (Si 72 (by decide) (by decide) (by decide)).trans t1.1.1.1
  have gz : gcr g = 2 := by
    rw [ug]
    rfl
  have gz' : gpo g = 1461 := by
    rw [ug]
    rfl
  have i80 : V.i 80 = r.i 80 := (Vi 80 (by decide) (by decide)).trans (rNx_i (by decide))
  have hv := t1.2.1
  refine Or.inl ⟨m, S, V, mu, h, p + 1, q + 1, w', 0, _, x + 1, by omega, ⟨e3 S72, v3, ⟨⟨⟨⟨S72, (Si 73 (by decide) (by decide) (by decide)).trans t1.1.1.2⟩, by rw [Si 66 (by decide) (by decide) (by decide)]; exact t1.1.2.1, by rw [Vi 92 (by decide) (by decide)]; exact t1.1.2.2⟩, hv.of (Si 65 (by decide) (by decide) (by decide)) (Sa 60 (by decide)) (Vi 93 (by decide) (by decide)) (Va 94 (by decide) (by decide) (by decide) (by decide) (by decide) (by decide) (by decide) (by decide)), n1.of rfl rfl rfl ((c2 80 (by decide)).trans (by rw [R1i])) ((c2 81 (by decide)).trans (by rw [R1i])) ((c4 82 (by decide) (by decide) (by decide) (by decide) (by decide)).trans (R1a 82 (by decide))) ((c4 83 (by decide) (by decide) (by decide) (by decide) (by decide)).trans (R1a 83 (by decide))), fun k l hk => ?_⟩, ⟨⟨?_, ⟨?_, ?_⟩, ?_, ⟨?_, ?_⟩, ?_, ?_⟩, ?_⟩, ?_⟩, BTP.no (by decide), u6, ?_⟩, v2⟩
  · rw [Sa 59 (by decide), Va 84 (by decide) (by decide) (by decide) (by decide) (by decide) (by decide) (by decide) (by decide)]
    exact t1.2.2.2 k l hk
  · refine ⟨?_, Or.inl ⟨rfl, c6, ⟨f, ⟨by rw [Sr]; exact f1, by rw [So]; exact f7, ?_⟩, by rw [So, f8, c7]⟩, ?_⟩⟩
    · rw [c10, R1i, n9 93 (by decide)]
      exact hv.1.2.1
    · rw [So, f9]
      exact hv.1.1
    · rw [Vi 97 (by decide) (by decide)]
      exact d1.of feq
  · show (S.i 67).toInt = ((frs c + 1 : Nat) : Int)
    rw [S67]
    omega
  · show (V.i 99).toInt = ((c.length + 1 : Nat) : Int)
    rw [c3]
    omega
  · rw [S71, hs]
    have q := d3
    rw [cNx_i (by decide)] at q
    rw [q]
  · rw [Vi 85 (by decide) (by decide)]
    exact d4
  · rw [Vi 85 (by decide) (by decide), Vi 80 (by decide) (by decide)]
    show ((rNx r).i 85).toInt + (tps c : Int) ≤ 2 * ((rNx r).i 80).toInt + 0
    omega
  · unfold MUI at *
    rw [Vi 85 (by decide) (by decide)]
    exact d6
  · exact (Vi 115 (by decide) (by decide)).trans d7
  · refine ⟨by rw [Si 68 (by decide) (by decide) (by decide), Vi 95 (by decide) (by decide)]; exact q1, by rw [Vi 95 (by decide) (by decide)]; exact q2, by rw [Vi 95 (by decide) (by decide)]; exact q3, q4, fun k hk => ?_, by rw [Vi 95 (by decide) (by decide)]; exact ⟨fun z => absurd (show (0 : Nat) = 1 from z) (by decide), fun _ => q6.of (fun k hk => by rw [c5 103 k (by omega), R1a 103 (by decide), n10 103 (by decide) (by decide)])⟩⟩
    rw [Vi 95 (by decide) (by decide)] at hk
    rw [Sa 63 (by decide), Va 96 (by decide) (by decide) (by decide) (by decide) (by decide) (by decide) (by decide) (by decide)]
    exact q5 k hk
  · exact tr.of (fun j hj => Si j (by omega) (by omega) (by omega)) (fun k hk => Sa k (by omega)) ⟨fun j hj => Vi j (by omega) (by omega), fun k hk => Va k (by omega) (by omega) (by omega) (by omega) (by omega) (by omega) (by omega) (by omega)⟩
  · rw [i80, x1]
    show x.toInt + 1 + ((fps c + 2 : Nat) : Int) + w' + 0 ≤ _
    omega
end
section
/-! both machines: a try begins; a resource is opened -/
theorem cpA_ne {s : CS} {k j : Nat} {f : Nat → Int32} (h : j ≠ k) : (CS.putA s k f).a j = s.a j := if_neg h
def UTry (s0 : CS) (r0 : RS) (AL : Als) (p q h w g : Nat) (c : List Ent) : Prop := s0.a 15 p = 54 ∧ r0.a 21 q = 31 ∧ g = 1 ∧ frs c ≤ 21 ∧ ∃ ex ey u : Nat, (s0.a 16 p).toInt = (ex : Int) ∧ (r0.a 22 q).toInt = (ey : Int) ∧ NXW AL (p + 1) (q + 1) h w 1 0 ((1, h, ex, ey, 0, 0, u) :: c)
theorem u_try {N H n : Nat} (hN : 10000000000 ≤ N) {D : Nat → List Nat} {T : Int32 × CS} {s0 : CS} {r0 : RS} {nm : Nat → Nat → Prop} {AL : Als} {s : CS} {r : RS} {mu : Nat → Nat} {h p q w g : Nat} {c : List Ent} {x : Int32} {U : Int32 × RS} (hct : HCT nm AL) (pt : PTX N H D T s0 r0 nm AL s r mu h p q w g c x) (hq : (q : Int) < (r0.i 20).toInt) (u : UTry s0 r0 AL p q h w g c) (e : f_X12_run_122 N n r = some U) : NXTW N H D T s0 r0 nm AL n U := by
  obtain ⟨u1, u2, ug, u4, ex, ey, uu, u7, u8, w', u5, u6⟩ := u
  obtain ⟨m, S, V, hn, ⟨e1, e2, e3, e4⟩, ⟨v1, v2, v3⟩, ⟨o1, o2⟩, oc, ⟨hp, hq3⟩, x1⟩ := pt_tick hN hct pt hq (by omega) e
  have rf := pt.2.1
  have h21 : r.a 21 q = r0.a 21 q := by rw [rf.2 21 (by decide)]
  have h22 : r.a 22 q = r0.a 22 q := by rw [rf.2 22 (by decide)]
  obtain ⟨p1, p2, ⟨mc, p4, p5⟩, p6, p7, p8⟩ := pt
  obtain ⟨t1, t2, t3⟩ := un_nx mc (by omega) (by omega)
  obtain ⟨-, ck, -⟩ := hct _ _ _ _ _ _ p7
  obtain ⟨⟨d1, ⟨d2, d2'⟩, d3, ⟨d4, d5⟩, d6, d7⟩, ⟨q1, q2, q3, q4, q5, q6⟩⟩ := p4.ex ck t2 t3
  have tr := p5.ex t2 t3
  have pv : PV s (cNx s) := PV.cnx s
  have hr : REFS (cNx s) := pv.refs p1.1.1
  have a1 : f_X3_enter N (cNx s) 1 (cAr s) = some ((), S) := xi_54 (o1.trans u1) e1
  obtain ⟨Q, b3, b4⟩ := xp_31 (r := rNx r) (by rw [mc.clq]; exact h21.trans u2) v1
  rw [mc.clq] at b3
  obtain ⟨f, f1, f2, f3, f4, f5, ⟨f6, f6'⟩, ⟨f7, f8, f9, f10⟩, f11, f12, f13⟩ := en_c d2 u4 a1
  have f4' : ∀ j : Nat, j ≠ 67 → S.i j = (cNx s).i j := f4
  obtain ⟨c1, c2, c3, c4, c5, c6, c7, c8, c9, c10⟩ := rc_r d2' b3
  rw [← b4] at c2 c3 c4 c5 c6 c7 c8 c9 c10
  obtain ⟨feq, tlv⟩ := en_feq (s := cNx s) (S := S) (r := rNx r) (V := V) (mu := mu) (m := ((rNx r).i 97).toInt) hr u4 f2 f3 ⟨by rw [f6], by rw [f6]⟩ f11 f12 f13 ⟨c2 85 (by decide), c2 3 (by decide)⟩ (fun j z1 z2 z3 z4 => c4 j (by omega) (by omega) (by omega) (by omega) (by omega)) (fun j i z1 z2 z3 => c5 j i (by omega))
  have S72 : S.i 72 = -1 := (f4' 72 (by decide)).trans t1.1.1.1
  have gz : gcr g = 2 := by
    rw [ug]
    rfl
  have gz' : gpo g = 1461 := by
    rw [ug]
    rfl
  have i80 : V.i 80 = r.i 80 := (c2 80 (by decide)).trans (rNx_i (by decide))
  have hv := t1.2.1
  have ca : ∀ j : Nat, j < 100 → V.a j = (rNx r).a j := fun j hj => c4 j (by omega) (by omega) (by omega) (by omega) (by omega)
  refine Or.inl ⟨m, S, V, mu, h, p + 1, q + 1, w', 0, _, x + 1, by omega, ⟨e3 S72, v3, ⟨⟨⟨⟨S72, (f4' 73 (by decide)).trans t1.1.1.2⟩, by rw [f4' 66 (by decide)]; exact t1.1.2.1, by rw [c2 92 (by decide)]; exact t1.1.2.2⟩, hv.of (f4' 65 (by decide)) (by rw [f6]) (c2 93 (by decide)) (ca 94 (by decide)), t1.2.2.1.of (f4' 69 (by decide)) (f4' 70 (by decide)) (by rw [f6]) (c2 80 (by decide)) (c2 81 (by decide)) (ca 82 (by decide)) (ca 83 (by decide)), fun k l hk => ?_⟩, ⟨⟨?_, ⟨?_, ?_⟩, ?_, ⟨?_, ?_⟩, ?_, ?_⟩, ?_⟩, ?_⟩, BTP.no (by decide), u6, ?_⟩, v2⟩
  · rw [f6, ca 84 (by decide)]
    exact t1.2.2.2 k l hk
  · refine ⟨?_, Or.inr (Or.inl ⟨rfl, c6, ⟨?_, c8⟩, ⟨f, ⟨f1, f7, ?_⟩, ?_, ?_, ?_, ?_⟩, ?_⟩)⟩
    · rw [c10]
      exact hv.1.2.1
    · rw [c7]
      show (r.a 22 q).toInt = _
      rw [h22]
      exact u8
    · show (S.o f 2).toInt = (h : Int)
      rw [f9]
      exact hv.1.1
    · show (S.o f 1).toInt = (ex : Int)
      rw [f8, o2]
      exact u7
    · rw [f10, c9, q1]
    · rw [c9]
      exact q2
    · rw [c9]
      exact q3
    · rw [c2 97 (by decide)]
      exact d1.of feq
  · show (S.i 67).toInt = ((frs c + 1 : Nat) : Int)
    rw [f5]
    omega
  · show (V.i 99).toInt = ((c.length + 1 : Nat) : Int)
    rw [c3]
    omega
  · rw [f4' 71 (by decide), hS_of (r := rNx r) (R := V) (ca 91 (by decide)) 8]
    exact d3
  · rw [c2 85 (by decide)]
    exact d4
  · rw [c2 85 (by decide), c2 80 (by decide)]
    show ((rNx r).i 85).toInt + ((tps c + 2 : Nat) : Int) ≤ 2 * ((rNx r).i 80).toInt + 0
    omega
  · unfold MUI at *
    rw [c2 85 (by decide)]
    exact d6
  · exact (c2 115 (by decide)).trans d7
  · refine ⟨by rw [f4' 68 (by decide), c2 95 (by decide)]; exact q1, by rw [c2 95 (by decide)]; exact q2, by rw [c2 95 (by decide)]; exact q3, q4, fun k hk => ?_, ⟨fun _ => ⟨?_, ?_⟩, fun z => absurd (show (1 : Nat) = 1 from rfl) z⟩⟩
    · rw [c2 95 (by decide)] at hk
      rw [f6, ca 96 (by decide)]
      exact q5 k hk
    · rw [c9, c2 95 (by decide)]
      exact Int.le_refl _
    · rw [c9]
      exact q6.of (fun k hk => c5 103 k (by omega))
  · exact tr.of (fun j hj => f4' j (by omega)) (fun k _ => by rw [f6]) ⟨fun j hj => c2 j (by omega), fun k hk => ca k (by omega)⟩
  · rw [i80, x1]
    show x.toInt + 1 + ((fps c + 1460 : Nat) : Int) + w' + 0 ≤ _
    omega
/-- one more may be open -/
theorem FRS.z1 {s : CS} {r : RS} {mu : Nat → Nat} {AL : Als} {e : Ent} {c : List Ent} {m : Int} (hk : e.k = 1) (h : FRS s r mu AL (e :: c) m) : FRS s r mu AL ((1, e.h, e.x, e.y, e.z + 1, e.w, e.u) :: c) m := by
  obtain ⟨h0, h⟩ := h
  refine ⟨h0, ?_⟩
  rcases h with ⟨k0, -⟩ | ⟨k1, h⟩ | ⟨k0, -⟩ | ⟨k0, -⟩ | ⟨k0, -⟩ | ⟨k0, -⟩
  · omega
  · exact Or.inr (Or.inl ⟨rfl, h⟩)
  · omega
  · omega
  · omega
  · omega
theorem DYN.z1 {s : CS} {r : RS} {mu : Nat → Nat} {AL : Als} {e : Ent} {c : List Ent} {n : Int} (hk : e.k = 1) (d : DY0 s r mu AL (e :: c) n) : DY0 s r mu AL ((1, e.h, e.x, e.y, e.z + 1, e.w, e.u) :: c) n := by
  obtain ⟨d1, d2, d3, ⟨d4, d5⟩, d6, d7⟩ := d
  have hf : frs ((1, e.h, e.x, e.y, e.z + 1, e.w, e.u) :: c) = frs (e :: c) := by
    rw [frs_up (e := e) (by omega)]
    rfl
  have ht : tps ((1, e.h, e.x, e.y, e.z + 1, e.w, e.u) :: c) = tps (e :: c) := by
    show tps c + 2 = tps c + (if e.k = 1 then 2 else if e.k = 2 then 1 else 0)
    rw [if_pos hk]
  exact ⟨d1.z1 hk, by rw [hf]; exact d2, d3, ⟨d4, by rw [ht]; exact d5⟩, d6, d7⟩
theorem RCO.z1 {r : RS} {e : Ent} {c : List Ent} {o o' : Int} (hk : e.k = 1) (h : RCO r (e :: c) o) (ho : o ≤ o') : RCO r ((1, e.h, e.x, e.y, e.z + 1, e.w, e.u) :: c) o' := ⟨fun _ => ⟨Int.le_trans (h.1 hk).1 ho, (h.1 hk).2⟩, fun z => absurd (show (1 : Nat) = 1 from rfl) z⟩
def UOpe (s0 : CS) (r0 : RS) (AL : Als) (p q h w : Nat) (c : List Ent) : Prop := s0.a 15 p = 55 ∧ r0.a 21 q = 32 ∧ s0.a 16 p = r0.a 22 q ∧ ∃ (u : Nat) (e : Ent) (c0 : List Ent), u + 2 ≤ w ∧ TYC s0 r0 AL u c ∧ c = e :: c0 ∧ e.k = 1 ∧ NXW AL (p + 1) (q + 1) h w 1 0 ((1, e.h, e.x, e.y, e.z + 1, e.w, e.u) :: c0)
theorem u_ope {N H n : Nat} (hN : 10000000000 ≤ N) {D : Nat → List Nat} {T : Int32 × CS} {s0 : CS} {r0 : RS} {nm : Nat → Nat → Prop} {AL : Als} {s : CS} {r : RS} {mu : Nat → Nat} {h p q w g : Nat} {c : List Ent} {x : Int32} {U : Int32 × RS} (hct : HCT nm AL) (pt : PTX N H D T s0 r0 nm AL s r mu h p q w g c x) (hq : (q : Int) < (r0.i 20).toInt) (u : UOpe s0 r0 AL p q h w c) (e : f_X12_run_122 N n r = some U) : NXTW N H D T s0 r0 nm AL n U := by
  obtain ⟨y1, y2, y3, u, a, c0, u1, u3, ec, ak, w', u5, u6⟩ := u
  obtain ⟨m, S, V, hn, ⟨e1, e2, e3, e4⟩, ⟨v1, v2, v3⟩, ⟨o1, o2⟩, oc, ⟨hp, hq3⟩, x1⟩ := pt_tick hN hct pt hq (by omega) e
  have rf := pt.2.1
  have h21 : r.a 21 q = r0.a 21 q := by rw [rf.2 21 (by decide)]
  have h22 : r.a 22 q = r0.a 22 q := by rw [rf.2 22 (by decide)]
  have mc := pt.2.2.1.1
  obtain ⟨-, ck, -, d22, hh⟩ := hct _ _ _ _ _ _ pt.2.2.2.2.1
  obtain ⟨-, -, ops', -⟩ := hct _ _ _ _ _ _ u6
  obtain ⟨t1, t2, t3⟩ := un_nx mc (by omega) (by omega)
  have dy := pt.2.2.1.2.1.ex ck t2 t3
  have tr := pt.2.2.1.2.2.ex t2 t3
  have gn := gcr_nn (g := g)
  have gn' := gpo_nn (g := g)
  have b6 := pt.2.2.2.2.2
  have a1 : f_X3_openOne N (cNx s) (cAr s) = some ((), S) := xi_55 (o1.trans y1) e1
  have ga := xp_32 (r := rNx r) (by rw [mc.clq]; exact h21.trans y2) v1
  have ex : (rNx r).a 22 (r.i 92).toNatClampNeg = cAr s := by
    rw [mc.clq, o2, y3]
    exact h22
  rw [ex] at ga
  obtain ⟨i8, ga⟩ := ga
  obtain ⟨k, hk⟩ : ∃ k : Nat, (cAr s).toInt = (k : Int) := ⟨(cAr s).toInt.toNat, by have := i8.1; omega⟩
  have k8 : k < 8 := by have := i8.2; omega
  rw [cl_nat hk] at ga
  obtain ⟨s1, s2, s3⟩ := tr.1 k k8
  have gk : ∀ f : Nat → Int32, gAt f 8 (cAr s) = f k := fun f => by
    unfold gAt
    rw [if_pos ⟨by omega, by omega⟩, cl_nat hk]
  unfold f_X3_openOne at a1
  rw [gk, gk] at a1
  have rb := (tr.2.2.2.2.2.1 k k8)
  have rl := le_int rb.1
  have ru := le_int rb.2
  have r12 := le_int tr.2.2.2.1.2
  have e12 : (12 : Int32).toInt = 12 := by decide
  have e1' : (1 : Int32).toInt = 1 := by decide
  rw [z_t0] at rl
  have e6 : (rNx r).a 6 k - 1 = (cNx s).a 11 k := by
    rw [← s2]
    exact Int32.add_sub_cancel _ _
  have i11 : ((cNx s).a 11 k).toInt = ((rNx r).a 6 k).toInt - 1 := by
    rw [← e6, toInt_sub] <;> rw [e1'] <;> omega
  rw [e6] at ga
  have fe : fps ((1, a.h, a.x, a.y, a.z + 1, a.w, a.u) :: c0) = fps c := by
    rw [ec]
    show fps c0 + 1460 = fps c0 + (if a.k = 0 then 2 else if a.k = 1 then 1460 else if a.k = 2 then 1154 else if a.k = 3 then 1152 else 0)
    rw [if_neg (by omega), if_pos ak]
  have oe : ops ((1, a.h, a.x, a.y, a.z + 1, a.w, a.u) :: c0) = ops c + 1 := by
    rw [ec]
    show ops c0 + (a.z + 1) = ops c0 + (if a.k = 1 then a.z else 0) + 1
    rw [if_pos ak]
    omega
  by_cases lt : (cNx s).a 11 k < 0
  · have l1 := lt_int lt
    rw [z_t0] at l1
    have le6 : (rNx r).a 6 k ≤ 0 := by
      rw [Int32.le_iff_toInt_le, z_t0]
      omega
    rw [if_pos lt] at a1
    rw [ec] at dy
    obtain ⟨dy0, ⟨q1, q2, q3, q4, q5, q6⟩⟩ := dy
    have dz := DYN.z1 ak dy0
    rcases ga with ⟨-, c5, P, p1, p2⟩ | ⟨-, c5, p2⟩ | ⟨c6, -⟩
    · -- it is opened
      rw [if_pos (s1.trans c5)] at a1
      obtain ⟨E, x2, x3⟩ := hf_bind a1
      obtain ⟨n1, n2, n3, ⟨n4, n5, n6, n7, n8⟩, n9, n10⟩ := t1.2.2.1.note x2 p1
      have eS : S = CS.setI (CS.putA E.2 63 (gPut (E.2.a 63) 320 (E.2.i 68) (cAr s))) 68 (E.2.i 68 + 1) := (congrArg Prod.snd (Option.some.inj x3)).symm
      have E68 : E.2.i 68 = (rNx r).i 95 := (n2 68 (by decide)).trans q1
      have P95 : P.i 95 = (rNx r).i 95 := n9 95 (by decide)
      have Si : ∀ j : Nat, j ≠ 68 → j ≠ 69 → S.i j = (cNx s).i j := fun j z1 z2 => by rw [eS, ci_ne _ _ _ z1]; exact n2 j z2
      have S68 : S.i 68 = (rNx r).i 95 + 1 := by rw [eS, ci_at, E68]
      have Sa : ∀ j : Nat, j ≠ 63 → j ≠ 64 → S.a j = (cNx s).a j := fun j z1 z2 => by
        rw [eS]
        exact (if_neg z1 : (CS.putA E.2 63 (gPut (E.2.a 63) 320 (E.2.i 68) (cAr s))).a j = E.2.a j).trans (n3 j z2)
      have S64 : S.a 64 = E.2.a 64 := by
        rw [eS]
        exact cpA_ne (by decide)
      have Sr : S.r = (cNx s).r ∧ S.w = (cNx s).w ∧ S.o = (cNx s).o ∧ S.ot = (cNx s).ot ∧ S.oa = (cNx s).oa := by
        rw [eS]
        exact ⟨n4, n5, n6, n7, n8⟩
      obtain ⟨r1, r2, r3, r4, r5⟩ := Sr
      have Vi : ∀ j : Nat, j ≠ 81 → j ≠ 95 → V.i j = (rNx r).i j := fun j z1 z2 => by
        rw [p2, ri_ne z2]
        exact n9 j z1
      have V95 : V.i 95 = (rNx r).i 95 + 1 := by rw [p2, ri_at, P95]
      have Va : ∀ j : Nat, j ≠ 82 → j ≠ 83 → j ≠ 96 → V.a j = (rNx r).a j := fun j z1 z2 z3 => by
        rw [p2]
        show (RS.setA P 96 (P.i 95).toNatClampNeg (cAr s)).a j = _
        rw [setA_nk z3, n10 j z1 z2]
      have o95 : ((rNx r).i 95 + 1).toInt = ((rNx r).i 95).toInt + 1 := ad1 q2 (by omega)
      obtain ⟨k9, hk9⟩ : ∃ k9 : Nat, ((rNx r).i 95).toInt = (k9 : Int) := ⟨((rNx r).i 95).toInt.toNat, by omega⟩
      have l320 : k9 < 320 := by
        rw [oe, ec] at ops'
        omega
      have tlv : ∀ b : Nat, TLV (cNx s) (rNx r) mu b → TLV S V mu b := fun b t => by
        unfold TLV THG inP at *
        rw [r1, r3, r5, Vi 85 (by decide) (by decide), Vi 3 (by decide) (by decide), Va 86 (by decide) (by decide) (by decide), Va 87 (by decide) (by decide) (by decide), Va 88 (by decide) (by decide) (by decide), Va 89 (by decide) (by decide) (by decide), Va 90 (by decide) (by decide) (by decide)]
        exact t
      have feq : FEQ (cNx s) S (rNx r) V mu mu ((1, a.h, a.x, a.y, a.z + 1, a.w, a.u) :: c0) ((rNx r).i 97).toInt := ⟨fun i f _ hf => ⟨by rw [r1]; exact hf, by rw [r3], by rw [r4]⟩, fun b _ t => ⟨tlv b t, rfl, by rw [Va 87 (by decide) (by decide) (by decide)]⟩, ⟨Sa 17 (by decide) (by decide), Va 21 (by decide) (by decide) (by decide), Va 23 (by decide) (by decide) (by decide), Va 31 (by decide) (by decide) (by decide), Va 32 (by decide) (by decide) (by decide)⟩, fun j k z1 z2 _ => by rw [Va j (by omega) (by omega) (by omega)], fun b _ => ⟨fun k _ => by rw [Sa 59 (by decide) (by decide)], fun l _ => by rw [Va 84 (by decide) (by decide) (by decide)]⟩, fun j _ => by rw [Va 98 (by decide) (by decide) (by decide)]⟩
      have d' := dz.of (n' := 0) feq (Si 67 (by decide) (by decide)) (Si 71 (by decide) (by decide)) (Vi 97 (by decide) (by decide)) (Vi 99 (by decide) (by decide)) (Vi 115 (by decide) (by decide)) (Va 91 (by decide) (by decide) (by decide)) (by
        have z := dz.2.2.2.2.1
        unfold MUI at *
        rw [Vi 85 (by decide) (by decide)]
        exact z) (by
        have z := dz.2.2.2.1
        rw [Vi 85 (by decide) (by decide), Vi 80 (by decide) (by decide)]
        omega)
      have S72 : S.i 72 = -1 := (Si 72 (by decide) (by decide)).trans t1.1.1.1
      have i80 : V.i 80 = r.i 80 := (Vi 80 (by decide) (by decide)).trans (rNx_i (by decide))
      refine Or.inl ⟨m, S, V, mu, h, p + 1, q + 1, w', 0, _, x + 1, by omega, ⟨e3 S72, v3, ⟨⟨⟨⟨S72, (Si 73 (by decide) (by decide)).trans t1.1.1.2⟩, by rw [Si 66 (by decide) (by decide)]; exact t1.1.2.1, by rw [Vi 92 (by decide) (by decide)]; exact t1.1.2.2⟩, t1.2.1.of (Si 65 (by decide) (by decide)) (Sa 60 (by decide) (by decide)) (Vi 93 (by decide) (by decide)) (Va 94 (by decide) (by decide) (by decide)), n1.of (by rw [eS, ci_ne _ _ _ (by decide)]; rfl) (by rw [eS, ci_ne _ _ _ (by decide)]; rfl) S64 (by rw [p2, ri_ne (by decide)]; rfl) (by rw [p2, ri_ne (by decide)]; rfl) (by rw [p2]; exact setA_nk (s := P) (by decide)) (by rw [p2]; exact setA_nk (s := P) (by decide)), fun k l hk => ?_⟩, ⟨d', ?_⟩, ?_⟩, BTP.no (by decide), u6, ?_⟩, v2⟩
      · rw [Sa 59 (by decide) (by decide), Va 84 (by decide) (by decide) (by decide)]
        exact t1.2.2.2 k l hk
      · refine ⟨by rw [S68, V95], by rw [V95, o95]; omega, ?_, ops', fun k' hk' => ?_, ?_⟩
        · rw [V95, o95, oe, ec]
          omega
        · rw [V95, o95] at hk'
          have g63 : S.a 63 k' = if k' = k9 then cAr s else (cNx s).a 63 k' := by
            rw [eS]
            show gPut (E.2.a 63) 320 (E.2.i 68) (cAr s) k' = _
            unfold gPut
            rw [E68, if_pos ⟨by omega, by omega⟩, cl_nat hk9, n3 63 (by decide)]
            rfl
          have g96 : V.a 96 k' = if k' = k9 then cAr s else (rNx r).a 96 k' := by
            rw [p2]
            show (RS.setA P 96 (P.i 95).toNatClampNeg (cAr s)).a 96 k' = _
            rw [P95, cl_nat hk9]
            by_cases z : k' = k9
            · rw [z, setA_at, if_pos rfl]
            · rw [setA_ne z, if_neg z, n10 96 (by decide) (by decide)]
          rw [g63, g96]
          by_cases z : k' = k9
          · rw [if_pos z, if_pos z]
          · rw [if_neg z, if_neg z]
            exact q5 k' (by omega)
        · rw [V95, o95]
          exact (q6.of (fun k _ => by rw [Va 103 (by decide) (by decide) (by decide)])).z1 ak (by omega)
      · exact tr.of (fun j hj => Si j (by omega) (by omega)) (fun k hk => Sa k (by omega) (by omega)) ⟨fun j hj => Vi j (by omega) (by omega), fun k hk => Va k (by omega) (by omega) (by omega)⟩
      · rw [i80, x1, fe]
        show x.toInt + 1 + (fps c : Int) + w' + 0 ≤ _
        omega
    · -- there is none
      rw [if_neg (by rw [s1]; exact c5)] at a1
      have eS : S = cNx s := (congrArg Prod.snd (Option.some.inj a1)).symm
      rw [eS] at e3
      refine Or.inl ⟨m, cNx s, rNx r, mu, h, p + 1, q + 1, w', 0, _, x + 1, by omega, ⟨e3 t1.1.1.1, rf.tr t3.rfx, ⟨t1, ⟨?_, ⟨q1, q2, ?_, ops', q5, q6.z1 ak (Int.le_refl _)⟩⟩, tr⟩, BTP.no (by decide), u6, ?_⟩, by rw [← p2]; exact v2⟩
      · obtain ⟨z1, z2, z3, ⟨z4, z5⟩, z6, z7⟩ := dz
        refine ⟨z1, z2, z3, ⟨z4, ?_⟩, z6, z7⟩
        have : -(gcr 0) = 0 := rfl
        rw [this]
        omega
      · rw [oe, ec]
        omega
      · rw [rNx_i (by decide), x1, fe]
        show x.toInt + 1 + (fps c : Int) + w' + 0 ≤ _
        omega
    · exact absurd le6 c6
  · -- one is thrown
    have l1 : 0 ≤ ((cNx s).a 11 k).toInt := by
      have := le_int (Int32.not_lt.mp lt)
      rw [z_t0] at this
      exact this
    have nle : ¬ (rNx r).a 6 k ≤ 0 := fun z => by
      have := le_int z
      rw [z_t0] at this
      omega
    rw [if_neg lt] at a1
    obtain ⟨E, x2, x3⟩ := hf_bind a1
    have eS : S = E.2 := (congrArg Prod.snd (Option.some.inj x3)).symm
    rcases ga with ⟨z, -⟩ | ⟨z, -⟩ | ⟨-, P, p1, p2⟩
    · exact absurd z nle
    · exact absurd z nle
    · have pv : PV s (cNx s) := PV.cnx s
      obtain ⟨nu, l, lr, l80, l72⟩ := lvr_ra (u := u) (by omega) (pv.refs pt.1.1.1) (pv.room pt.1.1.2.1) d22 t1 dy (by omega) tr l1 (by omega) x2 p1
      rw [← eS] at l l72
      exact lv_unit hN hct pt (by omega) v2 v3 (e3 l72) (rf.tr (t3.rfx.tr lr)) (l80.trans (rNx_i (by decide))) ⟨ck, d22, hh⟩ u3 l (by omega) p2
end
section
/-! both machines: the ends of a try -/
def EXB (nm : Nat → Nat → Prop) (s : CS) (r : RS) (mu : Nat → Nat) (AL : Als) (h : Nat) (c : List Ent) (n : Int) : Prop := s.i 72 = -1 ∧ (MVS s r h ∧ MTR s r ∧ ∀ k l : Nat, nm k l → s.a 59 k = r.a 84 l) ∧ DYN s r mu AL c n ∧ TLR s r
/-- states that differ in ways and places alone -/
def WPL (A S : CS) (R W : RS) : Prop := (∀ j : Nat, j ≠ 66 → j ≠ 73 → j ≠ 74 → j ≠ 75 → S.i j = A.i j) ∧ S.a = A.a ∧ (S.r = A.r ∧ S.o = A.o ∧ S.ot = A.ot ∧ S.oa = A.oa) ∧ (∀ j : Nat, j ≠ 92 → j < 110 ∨ 114 < j → W.i j = R.i j) ∧ W.a = R.a
theorem WPL.tlv {A S : CS} {R W : RS} {mu : Nat → Nat} {b : Nat} (w : WPL A S R W) (t : TLV A R mu b) : TLV S W mu b := by
  obtain ⟨ei, ea, ⟨a1, a2, a3, a4⟩, gi, ga⟩ := w
  unfold TLV THG inP at *
  rw [a1, a2, a4, ga, gi 85 (by decide) (by omega), gi 3 (by decide) (by omega)]
  exact t
theorem WPL.feq {A S : CS} {R W : RS} {mu : Nat → Nat} {c : List Ent} {m : Int} (w : WPL A S R W) : FEQ A S R W mu mu c m := by
  obtain ⟨ei, ea, ⟨a1, a2, a3, a4⟩, gi, ga⟩ := id w
  exact ⟨fun i f _ hf => ⟨by rw [a1]; exact hf, by rw [a2], by rw [a3]⟩, fun b _ t => ⟨w.tlv t, rfl, by rw [ga]⟩, ⟨by rw [ea], by rw [ga], by rw [ga], by rw [ga], by rw [ga]⟩, fun j k _ _ _ => by rw [ga], fun a _ => ⟨fun k _ => by rw [ea], fun l _ => by rw [ga]⟩, fun j _ => by rw [ga]⟩
theorem EXB.wpl {nm : Nat → Nat → Prop} {A S : CS} {R W : RS} {mu : Nat → Nat} {AL : Als} {h : Nat} {c : List Ent} {n : Int} (w : WPL A S R W) (b : EXB nm A R mu AL h c n) : EXB nm S W mu AL h c n := by
  have feq : FEQ A S R W mu mu c (R.i 97).toInt := w.feq
  obtain ⟨ei, ea, ⟨a1, a2, a3, a4⟩, gi, ga⟩ := id w
  obtain ⟨m1, ⟨m5, m6, m7⟩, ⟨⟨d1, d2, d3, ⟨d4, d5⟩, d6, d7⟩, o⟩, t⟩ := b
  have ei' : ∀ j : Nat, j < 66 ∨ (66 < j ∧ j < 73) → S.i j = A.i j := fun j hj => ei j (by omega) (by omega) (by omega) (by omega)
  have gi' : ∀ j : Nat, j < 92 ∨ (92 < j ∧ j < 110) → W.i j = R.i j := fun j hj => gi j (by omega) (by omega)
  refine ⟨(ei' 72 (by omega)).trans m1, ⟨m5.of (ei' 65 (by omega)) (by rw [ea]) (gi' 93 (by omega)) (by rw [ga]), m6.of (ei' 69 (by omega)) (ei' 70 (by omega)) (by rw [ea]) (gi' 80 (by omega)) (gi' 81 (by omega)) (by rw [ga]) (by rw [ga]), by rw [ea, ga]; exact m7⟩, ⟨⟨by rw [gi' 97 (by omega)]; exact d1.of feq, by rw [ei' 67 (by omega), gi' 99 (by omega)]; exact d2, by rw [ei' 71 (by omega), hS_of (r := R) (R := W) (by rw [ga]) 8]; exact d3, by rw [gi' 85 (by omega), gi' 80 (by omega)]; exact ⟨d4, d5⟩, ?_, (gi 115 (by decide) (by omega)).trans d7⟩, ?_⟩, t.of (fun j hj => ei' j (by omega)) (fun k _ => by rw [ea]) ⟨fun j hj => gi' j (by omega), fun k _ => by rw [ga]⟩⟩
  · unfold MUI at *
    rw [gi' 85 (by omega)]
    exact d6
  · obtain ⟨o1, o2, o3, o4, o5, o6⟩ := o
    unfold OPW
    rw [ei' 68 (by omega), gi' 95 (by omega), ea, ga]
    exact ⟨o1, o2, o3, o4, o5, o6.of (fun k _ => by rw [ga])⟩
theorem MCO.exb {nm : Nat → Nat → Prop} {s : CS} {r : RS} {mu : Nat → Nat} {AL : Als} {h p q : Nat} {c : List Ent} {n : Int} (m : MCO nm s r h p q) (d : DYN s r mu AL c n) (t : TLR s r) : EXB nm s r mu AL h c n := ⟨m.1.1.1, ⟨m.2.1, m.2.2.1, m.2.2.2⟩, d, t⟩
theorem EXB.syn {nm : Nat → Nat → Prop} {s : CS} {r : RS} {mu : Nat → Nat} {AL : Als} {h p q : Nat} {c : List Ent} {n : Int} (b : EXB nm s r mu AL h c n) (h73 : s.i 73 = 0) (h66 : (s.i 66).toInt = (p : Int)) (h92 : (r.i 92).toInt = (q : Int)) : SYN nm s r mu AL h p q c n := ⟨⟨⟨⟨b.1, h73⟩, h66, h92⟩, b.2.1⟩, b.2.2⟩
/-- a jump that leaves no more arrives -/
theorem ex_arr {N H : Nat} (hN : 10000000000 ≤ N) {D : Nat → List Nat} {T : Int32 × CS} {s0 s : CS} {nm : Nat → Nat → Prop} {AL : Als} {mu : Nat → Nat} {h p q : Nat} {c : List Ent} {r : RS} {x : Int32} {n : Int} (cr : CRN N H D T s0 s x) (hx : x.toInt < 4000000) (d22 : frs c ≤ 22) (b : EXB nm s r mu AL h c n) (e73 : s.i 73 = 1) (t32 : (s.i 75 - s.i 75 / 32 * 32).toInt = (frs c : Int)) (ep : (cTg s (s.i 75 / 32)).toInt = (p : Int)) (eq : (r.i 92).toInt = (q : Int)) : ∃ S : CS, CRN N H D T s0 S (x + 1) ∧ SYN nm S r mu AL h p q c n := by
  obtain ⟨d1, ⟨d2, d2'⟩, -⟩ := b.2.2.1.1
  obtain ⟨S, e1, -, e3⟩ := cl_arr hN cr hx b.1 (by rw [e73]; decide) d2 d22 d1 (Or.inr (fun z => by
    unfold LTG at z
    have := lt_int z
    omega))
  unfold f_X3_arrive f_X3_arrive_48 at e1
  rw [if_neg (by rw [e73]; decide), if_neg (by rw [e73]; decide), if_neg (by rw [e73]; decide)] at e1
  have eS : S = CS.setI (CS.setI s 66 (gAt (s.a 17) 1024 (s.i 75 / 32))) 73 0 := (congrArg Prod.snd (Option.some.inj e1)).symm
  refine ⟨S, e3, (b.wpl (S := S) (W := r) ?_).syn ?_ ?_ eq⟩
  · rw [eS]
    exact ⟨fun j a b _ _ => by rw [ci_ne _ _ _ b, ci_ne _ _ _ a], rfl, ⟨rfl, rfl, rfl, rfl⟩, fun _ _ _ => rfl, rfl⟩
  · rw [eS, ci_at]
  · rw [eS, ci_ne _ _ _ (by decide), ci_at]
    exact ep
/-- the entry on top goes, with no more -/
theorem blw_ex {nm : Nat → Nat → Prop} {s : CS} {r : RS} {mu : Nat → Nat} {AL : Als} {h f : Nat} {e : Ent} {c : List Ent} (tp : TOPW s r e c f) (bl : BLW nm s r mu AL h c 0) (h73 : ¬ s.i 73 = 4) : EXB nm (CS.setI s 67 (s.i 67 - 1)) (RS.setI r 99 (r.i 99 - 1)) mu AL h c 0 := by
  obtain ⟨⟨t1, t2⟩, -, t7, -⟩ := tp
  obtain ⟨b1, ⟨b2, b3, b4⟩, b5, b6, b7, ⟨b8, b9⟩, b10, b11, b12⟩ := bl
  obtain ⟨x1, x2⟩ := idx1 (r := r) (k := c.length) (by rw [t7]; omega)
  obtain ⟨S, hS'⟩ : ∃ S, S = CS.setI s 67 (s.i 67 - 1) := ⟨_, rfl⟩
  obtain ⟨R, hR⟩ : ∃ R, R = RS.setI r 99 (r.i 99 - 1) := ⟨_, rfl⟩
  have ci : ∀ j : Nat, j ≠ 67 → S.i j = s.i j := fun j a => by rw [hS', ci_ne _ _ _ a]
  have ri : ∀ j : Nat, j ≠ 99 → R.i j = r.i j := fun j a => by rw [hR, ri_ne a]
  have sa : S.a = s.a ∧ S.r = s.r ∧ S.w = s.w ∧ S.o = s.o ∧ S.ot = s.ot ∧ S.oa = s.oa := by
    rw [hS']
    exact ⟨rfl, rfl, rfl, rfl, rfl, rfl⟩
  have ra : R.a = r.a := by
    rw [hR]
    rfl
  have s67 : (S.i 67).toInt = (frs c : Int) := by
    rw [hS', ci_at]
    exact sub_n1 t1
  have r99 : (R.i 99).toInt = (c.length : Int) := by
    rw [hR, ri_at]
    exact x1
  rw [← hS', ← hR]
  clear hS' hR
  obtain ⟨a1, a2, a3, a4, a5, a6⟩ := sa
  have tlv : ∀ b : Nat, TLV s r mu b → TLV S R mu b := fun b t => by
    unfold TLV THG inP at *
    rw [a2, a4, a6, ra, ri 85 (by decide), ri 3 (by decide)]
    exact t
  have feq : FEQ s S r R mu mu c (r.i 97).toInt := ⟨fun i f _ hf => ⟨by rw [a2]; exact hf, by rw [a4], by rw [a5]⟩, fun b _ t => ⟨tlv b t, rfl, by rw [ra]⟩, ⟨by rw [a1], by rw [ra], by rw [ra], by rw [ra], by rw [ra]⟩, fun j k _ _ _ => by rw [ra], fun a _ => ⟨fun k _ => by rw [a1], fun l _ => by rw [ra]⟩, fun j _ => by rw [ra]⟩
  refine ⟨(ci 72 (by decide)).trans b1, ⟨(b2.mvs h73).of (ci 65 (by decide)) (by rw [a1]) (ri 93 (by decide)) (by rw [ra]), b3.of (ci 69 (by decide)) (ci 70 (by decide)) (by rw [a1]) (ri 80 (by decide)) (ri 81 (by decide)) (by rw [ra]) (by rw [ra]), fun k l hk => by rw [a1, ra]; exact b4 k l hk⟩, ⟨⟨by rw [ri 97 (by decide)]; exact b5.of feq, ⟨s67, r99⟩, by rw [ci 71 (by decide), hS_of (r := r) (R := R) (by rw [ra]) 8]; exact b7, by rw [ri 85 (by decide), ri 80 (by decide)]; exact ⟨b8, b9⟩, ?_, (ri 115 (by decide)).trans b11⟩, ?_⟩, b12.of (fun j hj => ci j (by omega)) (fun k _ => by rw [a1]) ⟨fun j hj => ri j (by omega), fun k _ => by rw [ra]⟩⟩
  · unfold MUI at *
    rw [ri 85 (by decide)]
    exact b10
  · obtain ⟨o1, o2, o3, o4, o5, o6⟩ := b6
    unfold OPW
    rw [ci 68 (by decide), ri 95 (by decide), a1, ra]
    exact ⟨o1, o2, o3, o4, o5, o6.of (fun k _ => by rw [ra])⟩
/-- the exit of a try -/
def XIT (s0 : CS) (r0 : RS) (AL : Als) (T : Int32) (h w : Nat) (e : Ent) (c : List Ent) : Prop := ((T - T / 32 * 32).toInt = (frs c : Int) ∧ (T / 32).toInt = (e.x : Int) + 2) ∧ ((r0.a 31 e.y).toInt < 0 → ∃ p q w' : Nat, (cTg s0 (T / 32)).toInt = (p : Int) ∧ (r0.a 32 e.y).toInt = (q : Int) ∧ AL p q h w' 0 c ∧ w' ≤ w) ∧ (FCP r0 AL e.y → ∃ p q w' : Nat, (cTg s0 (T / 32)).toInt = (p : Int) ∧ (r0.a 32 e.y).toInt = (q : Int) ∧ AL p q e.h w' 0 c ∧ w' ≤ e.u)
/-- behind body or catch: its finally, or the exit -/
theorem go_on {N H n m : Nat} (hN : 10000000000 ≤ N) {D : Nat → List Nat} {T : Int32 × CS} {s0 : CS} {r0 : RS} {nm : Nat → Nat → Prop} {AL : Als} {s : CS} {V W : RS} {mu : Nat → Nat} {h f u w : Nat} {e : Ent} {c : List Ent} {x y : Int32} {U : Int32 × RS} (cr : CRN N H D T s0 s x) (rw0 : RFX r0 W) (tp : TOPW s W e c f) (bl : BLW nm s W mu AL h c 0) (eh : e.h ≤ h) (e73 : s.i 73 = 1) (e110 : W.i 110 = 0) (hfn : HFN s0 r0 AL e c u) (xit : XIT s0 r0 AL (s.i 75) h w e c) (hB : x.toInt + fps c + 1154 + u + w + 2 ≤ 3990 * (W.i 80).toInt + 10000 + u) (hu : u ≤ w) (hn : m < n) (run : f_X12_run_122 N m V = some U) (rf : RFX r0 V) (hy : y.toInt = (c.length : Int)) (st : (W.i 80).toInt ≤ 1000) (g : f_X12_goOn N W y = some V) : NXTW N H D T s0 r0 nm AL n U := by
  obtain ⟨⟨t32, tx⟩, xn, xf⟩ := xit
  have a17 : s.a 17 = s0.a 17 := cr.2.1.2.1 17 (by decide)
  have ec : cTg s = cTg s0 := by
    funext t
    unfold cTg
    rw [a17]
  have x0 := cr.2.2.1.1
  have h67 := tp.1.1
  have lt : LTG s := by
    unfold LTG
    rw [Int32.lt_iff_toInt_lt, t32, h67]
    omega
  unfold f_X12_goOn at g
  obtain ⟨P, p1, p2⟩ := hf_bind g
  have hfn' : HFN s W AL e c u := hfn.cg a17 rw0
  rcases hfn' with ⟨t1, t2⟩ | ⟨p, q, wf, t1, t2, t3, t4, t5⟩
  · rcases fi_r hy tp.2.2.2.2.1 p1 with ⟨z, eP⟩ | ⟨z, -⟩
    · obtain ⟨S, e1, e2, e3⟩ := cr.lv hN bl.1 (by rw [e73]; decide) (by omega)
      have eS := lo_p h67 (by have := tp.1.2; omega) tp.2.1.1 lt (Or.inr ⟨tp.2.1.2.1, t2 _ tp.2.1.2.2.1⟩) e1
      rw [eP, if_pos rfl] at p2
      have p3 := (hf_ite (hf_ite p2).2).2
      rw [cl_nat hy, cl_nat tp.2.2.2.2.1] at p3
      have eV := (Option.some.inj p3).symm
      have ex := blw_ex tp bl (by rw [e73]; decide)
      rw [← eS] at ex
      have r31 : r0.a 31 = W.a 31 := (rw0.2 31 (by decide)).symm
      have r32 : W.a 32 = r0.a 32 := rw0.2 32 (by decide)
      obtain ⟨p', q', w', y1, y2, y3, y4⟩ := xn (by rw [r31]; exact t1)
      have ex2 : EXB nm S V mu AL h c 0 := ex.wpl ⟨fun _ _ _ _ _ => rfl, rfl, ⟨rfl, rfl, rfl, rfl⟩, fun j a _ => by rw [eV, ri_ne a], by rw [eV]; rfl⟩
      have S75 : S.i 75 = s.i 75 := by rw [eS, ci_ne _ _ _ (by decide)]
      have V80 : V.i 80 = W.i 80 := by rw [eV, ri_ne (by decide), ri_ne (by decide)]
      have ecS : cTg S = cTg s0 := by
        funext t
        unfold cTg
        rw [eS]
        show gAt (s.a 17) 1024 t = _
        rw [a17]
      have xa1 : (x + 1).toInt = x.toInt + 1 := ad1 x0 (by omega)
      obtain ⟨S3, c3, sy⟩ := ex_arr (p := p') (q := q') hN e3 (by omega) (by have := tp.1.2; omega) ex2 (by rw [eS, ci_ne _ _ _ (by decide)]; exact e73) (by rw [S75]; exact t32) (by rw [S75, ecS]; exact y1) (by rw [eV, ri_at]; show (W.a 32 e.y).toInt = _; rw [r32]; exact y2)
      refine Or.inl ⟨m, S3, V, mu, h, p', q', w', 0, c, x + 1 + 1, hn, ⟨c3, rf, sy, BTP.no (by decide), y3, ?_⟩, run⟩
      rw [V80, ad1 (by omega) (by omega), xa1]
      show x.toInt + 1 + 1 + (fps c : Int) + w' + 0 ≤ _
      omega
    · omega
  · have pn : PNX s W mu AL e c := by
      refine Or.inl ⟨e73, e110, ⟨t32, tx⟩, fun fc => ?_⟩
      have fc' : FCP r0 AL e.y := by
        unfold FCP at *
        rw [rw0.2 21 (by decide)] at fc
        exact fc
      obtain ⟨p', q', w', y1, y2, y3, y4⟩ := xf fc'
      exact ⟨p', q', w', by rw [ec]; exact y1, by rw [rw0.2 32 (by decide)]; exact y2, y3, y4⟩
    obtain ⟨nz, S, e3, sy, i80⟩ := fin_in hN cr (by omega) (by rw [e73]; decide) lt tp bl eh t1 (t2 _ tp.2.1.2.2.1) t4 pn hy p1
    rw [if_neg nz] at p2
    have eV := Option.some.inj p2
    rw [eV] at sy i80
    refine Or.inl ⟨m, S, V, mu, e.h, p, q, wf, 0, _, x + 1, hn, ⟨e3, rf, sy, BTP.no (by decide), t4, ?_⟩, run⟩
    rw [i80, ad1 x0 (by omega)]
    show x.toInt + 1 + ((fps c + 1152 : Nat) : Int) + wf + 0 ≤ _
    omega
end
section
/-! both machines: units that end a try -/
theorem stp_fin {N H n m n0 : Nat} (hN : 10000000000 ≤ N) {D : Nat → List Nat} {T : Int32 × CS} {s0 : CS} {r0 : RS} {nm : Nat → Nat → Prop} {AL : Als} {s : CS} {r V : RS} {h u : Nat} {c : List Ent} {U : Int32 × RS} (hct : HCT nm AL) (st : STP N H D T s0 nm AL h u V s r c n0 (3990 * (r.i 80).toInt + 10000)) (hs : (r.i 80).toInt ≤ 1000) (ck : CTK nm c ∧ frs c ≤ 22 ∧ ∀ e ∈ c, e.h ≤ h) (ty : TYC s r AL u c) (hn : m < n) (run : f_X12_run_122 N m V = some U) (rf : RFX r0 V) : NXTW N H D T s0 r0 nm AL n U := by
  rcases st with st | ⟨S, R, nu, n1, x', q1, q2, q3, q4, ⟨q5, q6, q7⟩, q8, q9⟩
  · exact lv_fin hn run rf st
  · have lo := lv_main hN hct (by omega) c n0 S R nu n1 x' ck.1 ck.2.1 ck.2.2 (TYC.cg q5 q6 q7 q8 ty) q1 q2 q4 q3
    rw [q9] at lo
    exact lv_fin hn run rf lo
/-- a LEAVE's first tick -/
theorem lea_1 {nm : Nat → Nat → Prop} {s S : CS} {r : RS} {mu : Nat → Nat} {AL : Als} {h p q : Nat} {c : List Ent} {n : Int} (b : EXB nm (cNx s) (rNx r) mu AL h c n) (eS : S = CS.setI (CS.setI (CS.setI (cNx s) 73 1) 74 0) 75 (cAr s)) : EXB nm S (RS.setI (rNx r) 110 0) mu AL h c n ∧ S.i 73 = 1 ∧ S.i 75 = cAr s := by
  refine ⟨b.wpl ?_, ?_, ?_⟩
  · rw [eS]
    exact ⟨fun j _ a b d => by rw [ci_ne _ _ _ d, ci_ne _ _ _ b, ci_ne _ _ _ a], rfl, ⟨rfl, rfl, rfl, rfl⟩, fun j _ a => ri_ne (by omega), rfl⟩
  · rw [eS, ci_ne _ _ _ (by decide), ci_ne _ _ _ (by decide), ci_at]
  · rw [eS, ci_at]
/-- ENDCATCH -/
def UEnc (s0 : CS) (r0 : RS) (AL : Als) (p q h w : Nat) (c : List Ent) : Prop := s0.a 15 p = 60 ∧ r0.a 21 q = 34 ∧ ∃ (a : Ent) (c0 : List Ent) (u wg : Nat), c = a :: c0 ∧ a.k = 2 ∧ HFN s0 r0 AL a c0 u ∧ u ≤ wg ∧ wg + 3 ≤ w ∧ XIT s0 r0 AL (s0.a 16 p) h wg a c0
theorem u_enc {N H n : Nat} (hN : 10000000000 ≤ N) {D : Nat → List Nat} {T : Int32 × CS} {s0 : CS} {r0 : RS} {nm : Nat → Nat → Prop} {AL : Als} {s : CS} {r : RS} {mu : Nat → Nat} {h p q w g : Nat} {c : List Ent} {x : Int32} {U : Int32 × RS} (hct : HCT nm AL) (pt : PTX N H D T s0 r0 nm AL s r mu h p q w g c x) (hq : (q : Int) < (r0.i 20).toInt) (u : UEnc s0 r0 AL p q h w c) (e : f_X12_run_122 N n r = some U) : NXTW N H D T s0 r0 nm AL n U := by
  obtain ⟨y1, y2, a, c0, u, wg, ec, ak, y3, y4, y5, y6⟩ := u
  obtain ⟨m, S, V, hn, ⟨e1, e2, e3, e4⟩, ⟨v1, v2, v3⟩, ⟨o1, o2⟩, oc, ⟨hp, hq3⟩, x1⟩ := pt_tick hN hct pt hq (by omega) e
  have rf := pt.2.1
  have h21 : r.a 21 q = r0.a 21 q := by rw [rf.2 21 (by decide)]
  have mc := pt.2.2.1.1
  obtain ⟨-, ck, -, d22, hh⟩ := hct _ _ _ _ _ _ pt.2.2.2.2.1
  obtain ⟨t1, t2, t3⟩ := un_nx mc (by omega) (by omega)
  have dy := pt.2.2.1.2.1.ex ck t2 t3
  have tr := pt.2.2.1.2.2.ex t2 t3
  have gn := gcr_nn (g := g)
  have gn' := gpo_nn (g := g)
  have b6 := pt.2.2.2.2.2
  have eS : S = CS.setI (CS.setI (CS.setI (cNx s) 73 1) 74 0) 75 (cAr s) := xi_60 (o1.trans y1) e1
  obtain ⟨ex, s73, s75⟩ := lea_1 (p := p) (q := q) (t1.exb dy tr) eS
  have g1 := xp_34 (r := rNx r) (by rw [mc.clq]; exact h21.trans y2) v1
  have i99 : (rNx r).i 99 = r.i 99 := rNx_i (by decide)
  obtain ⟨W, hW⟩ : ∃ W, W = RS.setI (rNx r) 110 0 := ⟨_, rfl⟩
  rw [← hW] at ex g1
  have W110 : W.i 110 = 0 := by rw [hW, ri_at]
  have Wi : ∀ j : Nat, j ≠ 110 → W.i j = (rNx r).i j := fun j a => by rw [hW, ri_ne a]
  have wr : RFX r0 W := rf.tr (t3.rfx.tr ⟨fun j hj => Wi j (by omega), fun _ _ => by rw [hW]; rfl⟩)
  clear hW
  rw [ec] at ex d22 hh
  obtain ⟨x72, ⟨xv, xm, xn⟩, ⟨⟨⟨d0, d1⟩, ⟨d2, d2'⟩, d3, ⟨d4, d5⟩, d6, d7⟩, op⟩, xt⟩ := ex
  have hf : frs (a :: c0) = frs c0 + 1 := frs_up (by omega)
  have tp : tps (a :: c0) = tps c0 + 1 := by
    show tps c0 + (if a.k = 1 then 2 else if a.k = 2 then 1 else 0) = tps c0 + 1
    rw [if_neg (by omega), if_pos ak]
  have fp : fps (a :: c0) = fps c0 + 1154 := by
    show fps c0 + (if a.k = 0 then 2 else if a.k = 1 then 1460 else if a.k = 2 then 1154 else if a.k = 3 then 1152 else 0) = fps c0 + 1154
    rw [if_neg (by omega), if_neg (by omega), if_pos ak]
  rw [ec, fp] at b6
  obtain ⟨z1, z2⟩ := idx1 (r := W) (k := c0.length) d2'
  have w80 : W.i 80 = r.i 80 := (Wi 80 (by decide)).trans (rNx_i (by decide))
  have w99 : (rNx r).i 99 - 1 = W.i 99 - 1 := by rw [Wi 99 (by decide)]
  rw [w99] at g1
  have st := mc.2.2.1.1.2.2
  rcases d1 with ⟨k0, -⟩ | ⟨k0, -⟩ | ⟨k2, a1, ⟨a2, a3⟩, ⟨f, b, a4, a5, a6, a7, a8, a9⟩, a10⟩ | ⟨k0, -⟩ | ⟨k0, -⟩ | ⟨k0, -⟩
  · omega
  · omega
  · have top : TOPW S W a c0 f := ⟨⟨by rw [d2, hf]; omega, by omega⟩, ⟨a4.1, a4.2.1, a5, a4.2.2⟩, by rw [d2']; show ((c0.length + 1 : Nat) : Int) = _; omega, a1, a2, d0⟩
    have bl : BLW nm S W mu AL h c0 0 := ⟨x72, ⟨xv.mvh, xm, xn⟩, a10, op.tl (by omega), d3, ⟨d4, by omega⟩, d6, d7, xt⟩
    exact go_on (w := wg) hN (e3 x72) wr top bl (hh a List.mem_cons_self) s73 W110 y3 (by rw [s75, o2]; exact y6) (by rw [w80, x1]; omega) y4 (by omega) v2 v3 z1 (by rw [w80]; exact st) g1
  · omega
  · omega
  · omega
/-- ENDBODY -/
def UEnb (s0 : CS) (r0 : RS) (AL : Als) (p q h w : Nat) (c : List Ent) : Prop := s0.a 15 p = 60 ∧ r0.a 21 q = 33 ∧ ∃ (a : Ent) (c0 : List Ent) (u wg : Nat), c = a :: c0 ∧ a.k = 1 ∧ TYC s0 r0 AL u c ∧ u ≤ wg ∧ wg + 3 ≤ w ∧ XIT s0 r0 AL (s0.a 16 p) h wg a c0
theorem clo_n {N n : Nat} {r V : RS} {y : Int32} (hc : r.i 95 ≤ r.a 103 y.toNatClampNeg) (g : f_X12_closeAll_0 N n r y = some V) : V = r := by
  cases n with
  | zero => cases g
  | succ n =>
    have g' : b_X12_closeAll_0 N (f_X12_closeAll_0 N n) r y = some V := g
    unfold b_X12_closeAll_0 at g'
    obtain ⟨-, g2⟩ := hf_ite g'
    rw [if_pos hc] at g2
    exact (Option.some.inj g2).symm
theorem u_enb {N H n : Nat} (hN : 10000000000 ≤ N) {D : Nat → List Nat} {T : Int32 × CS} {s0 : CS} {r0 : RS} {nm : Nat → Nat → Prop} {AL : Als} {s : CS} {r : RS} {mu : Nat → Nat} {h p q w g : Nat} {c : List Ent} {x : Int32} {U : Int32 × RS} (hct : HCT nm AL) (pt : PTX N H D T s0 r0 nm AL s r mu h p q w g c x) (hq : (q : Int) < (r0.i 20).toInt) (u : UEnb s0 r0 AL p q h w c) (e : f_X12_run_122 N n r = some U) : NXTW N H D T s0 r0 nm AL n U := by
  obtain ⟨y1, y2, a, c0, u, wg, ec, ak, y3, y4, y5, y6⟩ := u
  obtain ⟨m, S1, V, hn, ⟨e1, e2, e3, e4⟩, ⟨v1, v2, v3⟩, ⟨o1, o2⟩, oc, ⟨hp, hq3⟩, x1⟩ := pt_tick hN hct pt hq (by omega) e
  have rf := pt.2.1
  have h21 : r.a 21 q = r0.a 21 q := by rw [rf.2 21 (by decide)]
  have mc := pt.2.2.1.1
  obtain ⟨-, ck, o320, d22, hh⟩ := hct _ _ _ _ _ _ pt.2.2.2.2.1
  obtain ⟨t1, t2, t3⟩ := un_nx mc (by omega) (by omega)
  have dy := pt.2.2.1.2.1.ex ck t2 t3
  have tr := pt.2.2.1.2.2.ex t2 t3
  have gn := gcr_nn (g := g)
  have gn' := gpo_nn (g := g)
  have b6 := pt.2.2.2.2.2
  have eS : S1 = CS.setI (CS.setI (CS.setI (cNx s) 73 1) 74 0) 75 (cAr s) := xi_60 (o1.trans y1) e1
  obtain ⟨ex, s73, s75⟩ := lea_1 (p := p) (q := q) (t1.exb dy tr) eS
  obtain ⟨P, p1, p2⟩ := xp_33 (r := rNx r) (by rw [mc.clq]; exact h21.trans y2) v1
  obtain ⟨W, hW⟩ : ∃ W, W = RS.setI (rNx r) 110 0 := ⟨_, rfl⟩
  rw [← hW] at ex p1
  have W110 : W.i 110 = 0 := by rw [hW, ri_at]
  have Wi : ∀ j : Nat, j ≠ 110 → W.i j = (rNx r).i j := fun j a => by rw [hW, ri_ne a]
  have wr : RFX r0 W := rf.tr (t3.rfx.tr ⟨fun j hj => Wi j (by omega), fun _ _ => by rw [hW]; rfl⟩)
  clear hW
  rw [ec] at ex d22 hh ck y3 o320
  obtain ⟨x72, ⟨xv, xm, xn⟩, ⟨dd, ⟨q1, q2, q3, q4, q5, q6⟩⟩, xt⟩ := ex
  obtain ⟨⟨d0, d1⟩, ⟨d2, d2'⟩, d3, ⟨d4, d5⟩, d6, d7⟩ := id dd
  have hf : frs (a :: c0) = frs c0 + 1 := frs_up (by omega)
  have fp : fps (a :: c0) = fps c0 + 1460 := by
    show fps c0 + (if a.k = 0 then 2 else if a.k = 1 then 1460 else if a.k = 2 then 1154 else if a.k = 3 then 1152 else 0) = fps c0 + 1460
    rw [if_neg (by omega), if_pos ak]
  have op : ops (a :: c0) = ops c0 + a.z := by
    show ops c0 + (if a.k = 1 then a.z else 0) = ops c0 + a.z
    rw [if_pos ak]
  rw [ec, fp] at b6
  obtain ⟨z1, z2⟩ := idx1 (r := W) (k := c0.length) d2'
  have w80 : W.i 80 = r.i 80 := (Wi 80 (by decide)).trans (rNx_i (by decide))
  have w99 : (rNx r).i 99 - 1 = W.i 99 - 1 := by rw [Wi 99 (by decide)]
  rw [w99] at p1 p2
  have st := mc.2.2.1.1.2.2
  have cr1 := e3 x72
  have hr : REFS S1 := cr1.1.1
  rcases d1 with ⟨k0, -⟩ | ⟨k1, a1, ⟨a2, a3⟩, ⟨f, a4, a5, a6, a7, a8⟩, a9⟩ | ⟨k0, -⟩ | ⟨k0, -⟩ | ⟨k0, -⟩ | ⟨k0, -⟩
  · omega
  · have T0 := y6.1
    have lt : LTG S1 := by
      unfold LTG
      rw [Int32.lt_iff_toInt_lt, s75, o2, T0.1, d2, hf]
      omega
    have h67 : (S1.i 67).toInt = (frs c0 : Int) + 1 := by
      rw [d2, hf]
      omega
    obtain ⟨S2, g1, g2, g3⟩ := cr1.lv hN x72 (by rw [s73]; decide) (by omega)
    have g4 := lo_b h67 (by omega) a4.1 lt a4.2.1 g1
    have fk : oK S1 f 1 := hr.2.2.2.1 (frs c0) f (by omega) a4.1
    have e1' : (1 : Int32).toInt = 1 := by decide
    have hx : (S1.i 68 - 1).toInt = (W.i 95).toInt - 1 := by
      rw [q1, toInt_sub] <;> rw [e1'] <;> omega
    have cli : CLI nm H S1 W mu AL h (a :: c0) 0 u := ⟨⟨hr, cr1.1.2.1⟩, x72, ⟨xv.mvh, xm, xn⟩, ⟨⟨d0, Or.inr (Or.inl ⟨k1, a1, ⟨a2, a3⟩, ⟨f, a4, a5, a6, a7, a8⟩, a9⟩)⟩, ⟨d2, d2'⟩, d3, ⟨d4, by omega⟩, d6, d7⟩, ⟨by decide, fun _ => rfl⟩, Or.inl ⟨s73, W110⟩, xt, ⟨q2, by omega⟩, q5⟩
    obtain ⟨j1, j2⟩ := q6.1 ak
    obtain ⟨S, nu, n1, b1, b2, b3, b4, b5, b6', ⟨b7, b8⟩, b9, b80⟩ := cl_all (f := f) (by omega) ck d22 N N S1 W mu 0 (S1.i 68 - 1) ((), S2) P cli hx fk (by rw [z2]; exact a6) (by rw [a6]; exact a7) (by rw [a6]; exact j1) g4 p1
    have rfx : RFX W P := kx_f_X12_closeAll N W _ P p1
    have prf := wr.tr rfx
    have c15 : S2.a 15 = s0.a 15 := g3.2.1.2.1 15 (by decide)
    have c16 : S2.a 16 = s0.a 16 := g3.2.1.2.1 16 (by decide)
    have c17 : S2.a 17 = s0.a 17 := g3.2.1.2.1 17 (by decide)
    have e95 : P.i 95 = P.a 103 c0.length := by rw [b2, a6, b9]
    have acl : ACL nm H S P nu AL h u f a c0 n1 := by
      obtain ⟨-, -, -, ⟨⟨dd0, dd1⟩, -⟩, -⟩ := id b1
      rcases dd1 with ⟨k0, -⟩ | ⟨-, k1', ⟨k2', k3'⟩, ⟨f', k4', k5', k6', k7', k8'⟩, k9'⟩ | ⟨k0, -⟩ | ⟨k0, -⟩ | ⟨k0, -⟩ | ⟨k0, -⟩
      · omega
      · have ef : f' = f := by
          have y1 := k4'.1
          rw [b6', a4.1] at y1
          exact (Option.some.inj y1).symm
        rw [ef] at k4' k5' k6'
        refine ⟨b1, ⟨k4'.1, k5', k4'.2.2⟩, ⟨k1', k2', dd0, k3'⟩, k9', ⟨by rw [b2, b8], by rw [e95]; exact k8', by omega, ?_⟩⟩
        rw [e95, b9]
        exact j2.of (fun k _ => by rw [b9])
      · omega
      · omega
      · omega
      · omega
    have p80 : P.i 80 = r.i 80 := b80.trans w80
    have ckc : CTK nm c0 ∧ frs c0 ≤ 22 ∧ ∀ e ∈ c0, e.h ≤ h := ⟨ck.2.2, by omega, fun e he => hh e (List.mem_cons_of_mem _ he)⟩
    have x2 : (x + 1 + 1).toInt = x.toInt + 1 + 1 := by
      have x0 := (bud_x pt).2
      rw [ad1 (by omega) (by omega), x1]
    have y10 := b1.2.2.2.2.2.1
    by_cases t4 : S.i 73 = 4
    · -- one is thrown
      rcases p2 with ⟨p4, lv⟩ | ⟨p4, -⟩
      · obtain ⟨N', hN'⟩ : ∃ N' : Nat, N = N' + 1 := ⟨N - 1, by omega⟩
        have lv' : f_X12_leave_0 N (N' + 1) P = some V := by
          have q : f_X12_leave_0 N N P = some V := lv
          have q' : f_X12_leave_0 N N = f_X12_leave_0 N (N' + 1) := congrArg (f_X12_leave_0 N) hN'
          rw [← q']
          exact q
        have p99 : (P.i 99).toInt = (c0.length : Int) + 1 := by
          have := b1.2.2.2.1.2.1.2
          rw [this]
          show ((c0.length + 1 : Nat) : Int) = _
          omega
        have z0 : (0 : Int32).toInt = 0 := by decide
        have ng : LVG P := Or.inr ⟨by rw [p4]; decide, by rw [p4]; decide, fun q => by have := le_int q; omega⟩
        obtain ⟨k1', k2'⟩ := idx1 (r := P) (k := c0.length) (by rw [p99]; omega)
        obtain ⟨P2, i1, i2⟩ := lv_r40 k2' acl.2.2.1.1 acl.2.2.1.2.2.2 (lv_ng ng lv')
        have eP2 : P2 = P := clo_n (by rw [k2', e95]; exact Int32.le_refl _) (show f_X12_closeAll_0 N N P (P.i 99 - 1) = some P2 from i1)
        rw [eP2] at i2
        rcases i2 with ⟨-, i3⟩ | ⟨i3, -⟩
        · have sp := thr_in (B := 3990 * (P.i 80).toInt + 10000) hN hct ak d22 acl t4 (fun b w1 => b4 b t4 w1) g3 (hh a List.mem_cons_self) ((y3.1 ak).cg c15 c16 c17 prf) ((y3.2.1 (Or.inl ak)).cg c17 prf) (by rw [p80, x2]; omega) (by rw [p80]; omega) k1' i3
          exact stp_fin hN hct sp (by rw [p80]; exact st) ckc (TYC.cg c15 c16 c17 prf y3.2.2) (by omega) v2 v3
        · exact absurd p4 i3
      · exact absurd (y10.h4.mp t4) p4
    · -- none is thrown
      have eS2 : S2 = cFb S f := b3 t4
      obtain ⟨u1, u2, ⟨u3, u4, u5, u6, u7⟩, u8, u9, u10⟩ := cfb_f (s := S) (f := f)
      rw [← eS2] at u1 u2 u3 u4 u5 u6 u7 u8 u9 u10
      clear eS2
      rcases b5 with b5 | ⟨j3, j4, j5, j6, j7⟩
      · exact absurd b5 t4
      obtain ⟨bl, top, tv⟩ := acl_blw (S1 := S2) ak d22 acl u3 u4 u7 (fun g' hg => ⟨u8 g' hg, by rw [u6]⟩) (fun j _ _ j3 _ _ _ => u1 j j3) u2 (fun _ => ⟨u1 65 (by decide), t4⟩) u9 u10
      rcases p2 with ⟨p4, -⟩ | ⟨-, p4⟩
      · rw [j6, W110] at p4
        exact absurd p4 (by decide)
      · exact go_on (w := wg) hN g3 prf top bl (hh a List.mem_cons_self) (by rw [u1 73 (by decide), j3]; exact s73) (by rw [j6]; exact W110) (y3.2.1 (Or.inl ak)) (by rw [u1 75 (by decide), j5, s75, o2]; exact y6) (by rw [p80, x2]; omega) y4 (by omega) v2 v3 z1 (by rw [p80]; exact st) p4
  · omega
  · omega
  · omega
  · omega
end
section
/-! both machines: units that end a finally, a lock, arms, a row; jumps that leave no frame -/
theorem exb_sam {nm : Nat → Nat → Prop} {s S : CS} {r R : RS} {mu : Nat → Nat} {AL : Als} {h : Nat} {e : Ent} {c : List Ent} {n : Int} (b : EXB nm s r mu AL h (e :: c) n) (hk : ¬ e.k = 1) (sm : SAM s S r R) (mt : MTR S R) (fr : FRS s r mu AL c (R.i 97).toInt) (i67 : (S.i 67).toInt = (frs c : Int)) (i99 : (R.i 99).toInt = (c.length : Int)) (tk : S.i 71 = hS R 8) : EXB nm S R mu AL h c n := by
  obtain ⟨l1, ⟨l2, l3, l4⟩, ⟨⟨d1, d2, d3, ⟨d4, d5⟩, d6, d7⟩, l6⟩, l10⟩ := b
  have feq : FEQ s S r R mu mu c (R.i 97).toInt := sm.feq
  have rfx := sm.rfx
  obtain ⟨m1, m2, ⟨m3, m4, m5, m6, m7⟩, m8, m9⟩ := sm
  have i85 : R.i 85 = r.i 85 := m8 85 (by decide) (by decide) (by decide)
  have i80 : R.i 80 = r.i 80 := m8 80 (by decide) (by decide) (by decide)
  have i95 : R.i 95 = r.i 95 := m8 95 (by decide) (by decide) (by decide)
  have i68 : S.i 68 = s.i 68 := m1 68 (by decide) (by decide) (by decide)
  have tl := tps_le (e := e) (c := c)
  refine ⟨(m1 72 (by decide) (by decide) (by decide)).trans l1, ⟨l2.of (m1 65 (by decide) (by decide) (by decide)) (m2 60 (by decide)) (m8 93 (by decide) (by decide) (by decide)) (m9 94 (by decide) (by decide) (by decide)), mt, fun k l q => ?_⟩, ⟨⟨fr.of feq, ⟨i67, i99⟩, tk, ⟨by rw [i85]; exact d4, by rw [i85, i80]; omega⟩, ?_, (m8 115 (by decide) (by decide) (by decide)).trans d7⟩, ?_⟩, l10.of (fun j hj => m1 j (by omega) (by omega) (by omega)) (fun k hk => m2 k (by omega)) rfx⟩
  · rw [m2 59 (by decide), m9 84 (by decide) (by decide) (by decide)]
    exact l4 k l q
  · unfold MUI at *
    rw [i85]
    exact d6
  · obtain ⟨o1, o2, o3, o4, o5, o6⟩ := l6.tl hk
    refine ⟨by rw [i68, i95]; exact o1, by rw [i95]; exact o2, by rw [i95]; exact o3, o4, fun k hk => ?_, by rw [i95]; exact o6.of (fun k _ => by rw [m9 103 (by decide) (by decide) (by decide)])⟩
    rw [i95] at hk
    rw [m2 63 (by decide), m9 96 (by decide) (by decide) (by decide)]
    exact o5 k hk
theorem EXB.n0 {nm : Nat → Nat → Prop} {s : CS} {r : RS} {mu : Nat → Nat} {AL : Als} {h : Nat} {c : List Ent} {n n' : Int} (b : EXB nm s r mu AL h c n) (hn : n ≤ n') : EXB nm s r mu AL h c n' := by
  obtain ⟨l1, l2, ⟨⟨d1, d2, d3, ⟨d4, d5⟩, d6, d7⟩, l6⟩, l10⟩ := b
  exact ⟨l1, l2, ⟨⟨d1, d2, d3, ⟨d4, by omega⟩, d6, d7⟩, l6⟩, l10⟩
/-- ENDFIN -/
def UEnf (s0 : CS) (r0 : RS) (AL : Als) (p q h w : Nat) (c : List Ent) : Prop := s0.a 15 p = 59 ∧ r0.a 21 q = 35 ∧ 1 ≤ w ∧ ∃ (a : Ent) (c0 : List Ent), c = a :: c0 ∧ a.k = 3 ∧ a.h = h ∧ a.u ≤ w + 1150 ∧ (r0.a 32 a.y).toInt = ((q + 1 : Nat) : Int) ∧ TYC s0 r0 AL a.u c0
theorem u_enf {N H n : Nat} (hN : 10000000000 ≤ N) {D : Nat → List Nat} {T : Int32 × CS} {s0 : CS} {r0 : RS} {nm : Nat → Nat → Prop} {AL : Als} {s : CS} {r : RS} {mu : Nat → Nat} {h p q w g : Nat} {c : List Ent} {x : Int32} {U : Int32 × RS} (hct : HCT nm AL) (pt : PTX N H D T s0 r0 nm AL s r mu h p q w g c x) (hq : (q : Int) < (r0.i 20).toInt) (u : UEnf s0 r0 AL p q h w c) (e : f_X12_run_122 N n r = some U) : NXTW N H D T s0 r0 nm AL n U := by
  obtain ⟨y1, y2, y2', a, c0, ec, ak, ah, y3, y4, y5⟩ := u
  obtain ⟨m, S, V, hn, ⟨e1, e2, e3, e4⟩, ⟨v1, v2, v3⟩, ⟨o1, o2⟩, oc, ⟨hp, hq3⟩, x1⟩ := pt_tick hN hct pt hq y2' e
  obtain ⟨bx, x0⟩ := bud_x pt
  have rf := pt.2.1
  have h21 : r.a 21 q = r0.a 21 q := by rw [rf.2 21 (by decide)]
  have mc := pt.2.2.1.1
  obtain ⟨-, ck, -, d22, hh⟩ := hct _ _ _ _ _ _ pt.2.2.2.2.1
  obtain ⟨t1, t2, t3⟩ := un_nx mc (by omega) (by omega)
  have dy := pt.2.2.1.2.1.ex ck t2 t3
  have tr := pt.2.2.1.2.2.ex t2 t3
  have gn := gcr_nn (g := g)
  have gn' := gpo_nn (g := g)
  have b6 := pt.2.2.2.2.2
  have fcp : FCP r0 AL a.y := by
    have al := pt.2.2.2.2.1
    rw [ec] at al
    exact ⟨p, q, h, w, g, a, c0, al, ak, rfl, y2⟩
  have ex := t1.exb dy tr
  rw [ec] at ex d22 hh ck b6
  obtain ⟨x72, ⟨xv, xm, xn⟩, ⟨⟨⟨d0, d1⟩, ⟨d2, d2'⟩, d3, ⟨d4, d5⟩, d6, d7⟩, op⟩, xt⟩ := id ex
  have hf : frs (a :: c0) = frs c0 + 1 := frs_up (by omega)
  have fp : fps (a :: c0) = fps c0 + 1152 := by
    show fps c0 + (if a.k = 0 then 2 else if a.k = 1 then 1460 else if a.k = 2 then 1154 else if a.k = 3 then 1152 else 0) = fps c0 + 1152
    rw [if_neg (by omega), if_neg (by omega), if_neg (by omega), if_pos ak]
  rw [fp] at b6
  obtain ⟨z1, z2⟩ := idx1 (r := rNx r) (k := c0.length) d2'
  have st := mc.2.2.1.1.2.2
  rcases d1 with ⟨k0, -⟩ | ⟨k0, -⟩ | ⟨k0, -⟩ | ⟨k3, a1, ⟨a2, a3⟩, ⟨f, a4, a5⟩, a6⟩ | ⟨k0, -⟩ | ⟨k0, -⟩
  · omega
  · omega
  · omega
  · have d67 : (s.i 67).toInt = (frs c0 : Int) + 1 := by
      have := d2
      rw [cNx_i (by decide), hf] at this
      omega
    have eS : S = cRs (cNx s) f := xi_59 (o1.trans y1) d67 (by omega) a4.1 e1
    -- the entry goes
    obtain ⟨A, hA⟩ : ∃ A, A = CS.setI (cNx s) 67 ((cNx s).i 67 - 1) := ⟨_, rfl⟩
    obtain ⟨R, hR⟩ : ∃ R, R = RS.setI (rNx r) 99 ((rNx r).i 99 - 1) := ⟨_, rfl⟩
    have sm : SAM (cNx s) A (rNx r) R := by
      rw [hA, hR]
      exact ⟨fun j q _ _ => ci_ne _ _ _ q, fun _ _ => rfl, ⟨rfl, rfl, rfl, rfl, rfl⟩, fun j _ _ q => ri_ne q, fun _ _ _ _ => rfl⟩
    have exA : EXB nm A R mu AL h c0 (-(gcr g)) := exb_sam ex (by omega) sm (xm.of (by rw [hA, ci_ne _ _ _ (by decide)]) (by rw [hA, ci_ne _ _ _ (by decide)]) (by rw [hA]; rfl) (by rw [hR, ri_ne (by decide)]) (by rw [hR, ri_ne (by decide)]) (by rw [hR]; rfl) (by rw [hR]; rfl)) (by rw [hR, ri_ne (by decide)]; exact a6) (by rw [hA, ci_at]; exact sub_n1 (by rw [d2, hf]; omega)) (by rw [hR, ri_at]; exact z1) (by rw [hA, ci_ne _ _ _ (by decide), d3, hR]; exact (hS_of rfl 8).symm)
    obtain ⟨W, hW⟩ : ∃ W, W = rRs (rNx r) := ⟨_, rfl⟩
    have Wi : ∀ j : Nat, j < 110 ∨ 114 < j → W.i j = R.i j := fun j hj => by
      rw [hW, hR]
      unfold rRs
      by_cases z : j = 99
      · rw [z, ri_at, ri_at]
      · rw [ri_ne z, ri_ne (by omega), ri_ne (by omega), ri_ne (by omega), ri_ne (by omega), ri_ne (by omega), ri_ne z]
    have Wa : W.a = R.a := by
      rw [hW, hR]
      rfl
    have Wc : W.i 110 = (rNx r).a 105 c0.length ∧ W.i 111 = (rNx r).a 106 c0.length ∧ W.i 112 = (rNx r).a 107 c0.length ∧ W.i 113 = (rNx r).a 108 c0.length ∧ W.i 114 = (rNx r).a 109 c0.length := by
      rw [hW]
      unfold rRs
      rw [z2]
      refine ⟨?_, ?_, ?_, ?_, ?_⟩
      · rw [ri_ne (by decide), ri_ne (by decide), ri_ne (by decide), ri_ne (by decide), ri_ne (by decide), ri_at]
      · rw [ri_ne (by decide), ri_ne (by decide), ri_ne (by decide), ri_ne (by decide), ri_at]
      · rw [ri_ne (by decide), ri_ne (by decide), ri_ne (by decide), ri_at]
      · rw [ri_ne (by decide), ri_ne (by decide), ri_at]
      · rw [ri_ne (by decide), ri_at]
    have Si : ∀ j : Nat, j ≠ 73 → j ≠ 74 → j ≠ 75 → S.i j = A.i j := fun j q1 q2 q3 => by
      rw [eS, hA]
      unfold cRs
      rw [ci_ne _ _ _ q3, ci_ne _ _ _ q2, ci_ne _ _ _ q1, ci_setW]
    have Sc : S.i 73 = (cNx s).o f 5 ∧ S.i 74 = (cNx s).o f 6 ∧ S.i 75 = (cNx s).o f 7 ∧ S.w = (cNx s).ot f := by
      rw [eS]
      unfold cRs
      refine ⟨?_, ?_, ?_, rfl⟩
      · rw [ci_ne _ _ _ (by decide), ci_ne _ _ _ (by decide), ci_at]
      · rw [ci_ne _ _ _ (by decide), ci_at]
      · rw [ci_at]
    have Sr : S.a = A.a ∧ S.r = A.r ∧ S.o = A.o ∧ S.ot = A.ot ∧ S.oa = A.oa := by
      rw [eS, hA]
      exact ⟨rfl, rfl, rfl, rfl, rfl⟩
    have wpl : WPL A S R W := ⟨fun j _ q1 q2 q3 => Si j q1 q2 q3, Sr.1, ⟨Sr.2.1, Sr.2.2.1, Sr.2.2.2.1, Sr.2.2.2.2⟩, fun j _ hj => Wi j hj, Wa⟩
    have exS : EXB nm S W mu AL h c0 0 := (exA.wpl wpl).n0 (by omega)
    have w80 : W.i 80 = r.i 80 := by rw [Wi 80 (by omega), hR, ri_ne (by decide), rNx_i (by decide)]
    have w92 : (W.i 92).toInt = ((q + 1 : Nat) : Int) := by
      rw [Wi 92 (by omega), hR, ri_ne (by decide)]
      exact t1.1.2.2
    have wr : RFX r0 W := rf.tr (t3.rfx.tr ⟨fun j hj => by rw [Wi j (by omega), hR, ri_ne (by omega)], fun k _ => by rw [Wa, hR]; rfl⟩)
    have tlvW : ∀ b : Nat, TLV (cNx s) (rNx r) mu b → TLV S W mu b := fun b t => wpl.tlv (sm.tlv t)
    have oo : (cNx s).o = s.o := rfl
    have g1 := xp_35 (r := rNx r) (by rw [mc.clq]; exact h21.trans y2) v1
    rw [z2, ← hW] at g1
    have cs := e3 exS.1
    have a17 : S.a 17 = s0.a 17 := cs.2.1.2.1 17 (by decide)
    have ecS : cTg S = cTg s0 := by
      funext t
      unfold cTg
      rw [a17]
    have sa17 : (cNx s).a 17 = s0.a 17 := pt.1.2.1.2.1 17 (by decide)
    have ec2 : cTg (cNx s) = cTg s0 := by
      funext t
      unfold cTg
      rw [sa17]
    have fcp' : FCP (rNx r) AL a.y := by
      unfold FCP at *
      have z : (rNx r).a 21 = r0.a 21 := rf.2 21 (by decide)
      rw [z]
      exact fcp
    clear hA hR hW
    rcases a5 with ⟨f1, f2, ⟨f3, f4⟩, f5⟩ | f1
    · -- it goes on behind the try
      rcases g1 with ⟨-, eV⟩ | ⟨z, -⟩
      · obtain ⟨p', q', w', f6, f7, f8, f9⟩ := f5 fcp'
        have q1 : q' = q + 1 := by
          have z : (rNx r).a 32 = r0.a 32 := rf.2 32 (by decide)
          rw [z, y4] at f7
          omega
        rw [← ah] at exS
        obtain ⟨S3, c3, sy⟩ := ex_arr (p := p') (q := q') hN cs (by omega) (by omega) exS (by rw [Sc.1]; exact f1) (by rw [Sc.2.2.1]; exact f3) (by rw [Sc.2.2.1, ecS, ← ec2]; exact f6) (by rw [q1]; exact w92)
        rw [← eV] at sy w80
        refine Or.inl ⟨m, S3, V, mu, a.h, p', q', w', 0, c0, x + 1 + 1, by omega, ⟨c3, v3, sy, BTP.no (by decide), f8, ?_⟩, v2⟩
        rw [w80, ad1 (by omega) (by omega), x1]
        show x.toInt + 1 + 1 + (fps c0 : Int) + w' + 0 ≤ _
        omega
      · exact absurd f2 z
    · -- it goes on as it was left
      have wy := f1 fcp'
      have l : LVR nm S W mu AL h c0 0 a.u := by
        refine ⟨exS.1, ⟨exS.2.1.1.mvh, exS.2.1.2⟩, exS.2.2.1, ⟨by decide, fun _ => rfl⟩, ?_, exS.2.2.2⟩
        rw [Sc.1, Sc.2.1, Sc.2.2.1, Sc.2.2.2, Wc.1, Wc.2.1, Wc.2.2.1, Wc.2.2.2.1, Wc.2.2.2.2]
        have q21 : W.a 21 = (rNx r).a 21 := by rw [wr.2 21 (by decide)]; exact (rf.2 21 (by decide)).symm
        have q31 : W.a 31 = (rNx r).a 31 := by rw [wr.2 31 (by decide)]; exact (rf.2 31 (by decide)).symm
        have q23 : W.a 23 = (rNx r).a 23 := by rw [wr.2 23 (by decide)]; exact (rf.2 23 (by decide)).symm
        have wy' := wy.of (S := S) (R := W) (nu := mu) (by rw [a17, sa17]) q21 q31 q23 (fun b _ t => ⟨tlvW b t, rfl⟩)
        rw [ah] at wy'
        exact wy'
      rcases g1 with ⟨z, -⟩ | ⟨-, lv⟩
      · have q := wy.hw
        rw [z] at q
        rcases wy with ⟨k1, k2, -⟩ | ⟨k1, k2, -⟩ | ⟨k1, k2, -⟩ | ⟨k1, k2, -⟩ <;> rw [z] at k2 <;> exact absurd k2 (by decide)
      · exact lv_unit hN hct pt (by omega) v2 v3 cs wr w80 ⟨ck.2.2, by omega, fun e he => hh e (List.mem_cons_of_mem _ he)⟩ y5 l (by rw [x1, ec, fp]; omega) lv
  · omega
  · omega
end
section
/-! both machines: a lock is let go; arms, rows end; jumps that leave no frame -/
def URel (s0 : CS) (r0 : RS) (AL : Als) (p q w h : Nat) (c : List Ent) : Prop := s0.a 15 p = 60 ∧ r0.a 21 q = 27 ∧ ∃ (a : Ent) (c0 : List Ent) (p' w' : Nat), c = a :: c0 ∧ a.k = 0 ∧ (s0.a 16 p - s0.a 16 p / 32 * 32).toInt = (frs c0 : Int) ∧ (cTg s0 (s0.a 16 p / 32)).toInt = (p' : Int) ∧ AL p' (q + 1) h w' 0 c0 ∧ w' + 1 ≤ w
theorem u_rel {N H n : Nat} (hN : 10000000000 ≤ N) {D : Nat → List Nat} {T : Int32 × CS} {s0 : CS} {r0 : RS} {nm : Nat → Nat → Prop} {AL : Als} {s : CS} {r : RS} {mu : Nat → Nat} {h p q w g : Nat} {c : List Ent} {x : Int32} {U : Int32 × RS} (hct : HCT nm AL) (pt : PTX N H D T s0 r0 nm AL s r mu h p q w g c x) (hq : (q : Int) < (r0.i 20).toInt) (u : URel s0 r0 AL p q w h c) (e : f_X12_run_122 N n r = some U) : NXTW N H D T s0 r0 nm AL n U := by
  obtain ⟨y1, y2, a, c0, p', w', ec, ak, y3, y4, y5, y6⟩ := u
  obtain ⟨m, S1, V, hn, ⟨e1, e2, e3, e4⟩, ⟨v1, v2, v3⟩, ⟨o1, o2⟩, oc, ⟨hp, hq3⟩, x1⟩ := pt_tick hN hct pt hq (by omega) e
  obtain ⟨bx, x0⟩ := bud_x pt
  have rf := pt.2.1
  have h21 : r.a 21 q = r0.a 21 q := by rw [rf.2 21 (by decide)]
  have mc := pt.2.2.1.1
  obtain ⟨-, ck, -, d22, hh⟩ := hct _ _ _ _ _ _ pt.2.2.2.2.1
  obtain ⟨t1, t2, t3⟩ := un_nx mc (by omega) (by omega)
  have dy := pt.2.2.1.2.1.ex ck t2 t3
  have tr := pt.2.2.1.2.2.ex t2 t3
  have gn := gcr_nn (g := g)
  have gn' := gpo_nn (g := g)
  have b6 := pt.2.2.2.2.2
  have eS : S1 = CS.setI (CS.setI (CS.setI (cNx s) 73 1) 74 0) 75 (cAr s) := xi_60 (o1.trans y1) e1
  have s73 : S1.i 73 = 1 := by rw [eS, ci_ne _ _ _ (by decide), ci_ne _ _ _ (by decide), ci_at]
  have s75 : S1.i 75 = s0.a 16 p := by rw [eS, ci_at, o2]
  have ex : EXB nm S1 (rNx r) mu AL h c (-(gcr g)) := (t1.exb dy tr).wpl (by
    rw [eS]
    exact ⟨fun j _ a b d => by rw [ci_ne _ _ _ d, ci_ne _ _ _ b, ci_ne _ _ _ a], rfl, ⟨rfl, rfl, rfl, rfl⟩, fun _ _ _ => rfl, rfl⟩)
  rw [ec] at ex d22 b6 bx
  obtain ⟨x72, ⟨xv, xm, xn⟩, ⟨⟨⟨d0, d1⟩, ⟨d2, d2'⟩, d3, ⟨d4, d5⟩, d6, d7⟩, op⟩, xt⟩ := id ex
  have hf : frs (a :: c0) = frs c0 + 1 := frs_up (by omega)
  have fp : fps (a :: c0) = fps c0 + 2 := by
    show fps c0 + (if a.k = 0 then 2 else if a.k = 1 then 1460 else if a.k = 2 then 1154 else if a.k = 3 then 1152 else 0) = fps c0 + 2
    rw [if_pos ak]
  rw [fp] at b6 bx
  obtain ⟨z1, z2⟩ := idx1 (r := rNx r) (k := c0.length) d2'
  have cr1 := e3 x72
  rcases d1 with ⟨k0, a1, ⟨f, a2, a3⟩, a4⟩ | ⟨k0, -⟩ | ⟨k0, -⟩ | ⟨k0, -⟩ | ⟨k0, -⟩ | ⟨k0, -⟩
  · have lt : LTG S1 := by
      unfold LTG
      rw [Int32.lt_iff_toInt_lt, s75, y3, d2, hf]
      omega
    obtain ⟨S2, g1, -, g3⟩ := cr1.lv hN x72 (by rw [s73]; decide) (by omega)
    obtain ⟨P, p1, eS2⟩ := lo_0 (by rw [d2, hf]; omega) (by omega) a2.1 lt a2.2.1 g1
    rw [a3] at p1
    obtain ⟨Q, b1, b2, b3⟩ := xp_27 (r := rNx r) (by rw [mc.clq]; exact h21.trans y2) v1
    rw [z2] at b1
    have m0 : MTR (CS.setI S1 71 (S1.i 71 - 1)) (RS.setI (rNx r) 99 ((rNx r).i 99 - 1)) := xm.of (ci_ne _ _ _ (by decide)) (ci_ne _ _ _ (by decide)) rfl (ri_ne (by decide)) (ri_ne (by decide)) rfl rfl
    obtain ⟨n1, n2, n3, ⟨n4, n5, n6, n7, n8⟩, n9, n10⟩ := m0.note p1 b1
    have Q99 : (Q.i 99).toInt = (c0.length : Int) := by
      rw [n9 99 (by decide), ri_at]
      exact z1
    rw [cl_nat Q99] at b2 b3
    obtain ⟨k8, hk8⟩ : ∃ k : Nat, (Q.a 101 c0.length).toInt = (k : Int) := ⟨(Q.a 101 c0.length).toInt.toNat, by have := b2.1; omega⟩
    have k8' : k8 < 8 := by have := b2.2; omega
    rw [cl_nat hk8] at b3
    have Vi : ∀ j : Nat, j ≠ 81 → j ≠ 99 → V.i j = (rNx r).i j := fun j q1 q2 => by
      rw [b3]
      show Q.i j = _
      rw [n9 j q1, ri_ne q2]
    have V99 : (V.i 99).toInt = (c0.length : Int) := by
      rw [b3]
      exact Q99
    have Va : ∀ j : Nat, j ≠ 82 → j ≠ 83 → j ≠ 91 → V.a j = (rNx r).a j := fun j q1 q2 q3 => by
      rw [b3, setA_nk q3, n10 j q1 q2]
      rfl
    have q91 : Q.a 91 = (rNx r).a 91 := n10 91 (by decide) (by decide)
    have hs : hS V 8 = hS (rNx r) 8 + -1 := (hS_dec (r := rNx r) (R := V) (m := k8) (v := -1) (by rw [b3, setA_at, q91, Int32.sub_eq_add_neg]) (fun j a => by rw [b3, setA_ne a, q91]) 8).2 k8'
    have sm : SAM S1 S2 (rNx r) V := by
      refine ⟨fun j q1 q2 q3 => ?_, fun k q1 => ?_, ?_, fun j q1 _ q3 => Vi j q1 q3, fun k q1 q2 q3 => Va k q1 q2 q3⟩
      · rw [eS2, ci_ne _ _ _ q1, n2 j q2, ci_ne _ _ _ q3]
      · rw [eS2]
        exact n3 k q1
      · rw [eS2]
        exact ⟨n4, n5, n6, n7, n8⟩
    have mt : MTR S2 V := n1.of (by rw [eS2, ci_ne _ _ _ (by decide)]) (by rw [eS2, ci_ne _ _ _ (by decide)]) (by rw [eS2]; rfl) (by rw [b3]; rfl) (by rw [b3]; rfl) (by rw [b3, setA_nk (by decide)]) (by rw [b3, setA_nk (by decide)])
    have ex2 : EXB nm S2 V mu AL h c0 (-(gcr g)) := exb_sam ex (by omega) sm mt (by rw [Vi 97 (by decide) (by decide)]; exact a4) (by
      rw [eS2, ci_at, n2 67 (by decide), ci_ne _ _ _ (by decide)]
      exact sub_n1 (by rw [d2, hf]; omega)) V99 (by rw [eS2, ci_ne _ _ _ (by decide), n2 71 (by decide), ci_at, hs, d3, Int32.sub_eq_add_neg])
    have T75 : S2.i 75 = s0.a 16 p := (sm.1 75 (by decide) (by decide) (by decide)).trans s75
    have T73 : S2.i 73 = 1 := (sm.1 73 (by decide) (by decide) (by decide)).trans s73
    have a17 : S2.a 17 = s0.a 17 := g3.2.1.2.1 17 (by decide)
    have ec2 : cTg S2 = cTg s0 := by
      funext t
      unfold cTg
      rw [a17]
    have x2 : (x + 1 + 1).toInt = x.toInt + 1 + 1 := by rw [ad1 (by omega) (by omega), x1]
    obtain ⟨S3, c3, sy⟩ := ex_arr (p := p') (q := q + 1) hN g3 (by omega) (by omega) (ex2.n0 (n' := 0) (by omega)) T73 (by rw [T75]; exact y3) (by rw [T75, ec2]; exact y4) (by rw [Vi 92 (by decide) (by decide)]; exact t1.1.2.2)
    have v80 : V.i 80 = r.i 80 := (Vi 80 (by decide) (by decide)).trans (rNx_i (by decide))
    refine Or.inl ⟨m, S3, V, mu, h, p', q + 1, w', 0, c0, x + 1 + 1 + 1, by omega, ⟨c3, v3, sy, BTP.no (by decide), y5, ?_⟩, v2⟩
    rw [v80, ad1 (by omega) (by omega), x2]
    show x.toInt + 1 + 1 + 1 + (fps c0 : Int) + w' + 0 ≤ _
    omega
  · omega
  · omega
  · omega
  · omega
  · omega
/-- an arm ends -/
def UAre (s0 : CS) (r0 : RS) (AL : Als) (p q h w : Nat) (c : List Ent) : Prop := s0.a 15 p = 30 ∧ r0.a 21 q = 30 ∧ ∃ (a : Ent) (c0 : List Ent), c = a :: c0 ∧ a.k = 5 ∧ JX s0 AL (s0.a 16 p) (r0.a 23 a.x) h w 1 0 c0
theorem u_are {N H n : Nat} (hN : 10000000000 ≤ N) {D : Nat → List Nat} {T : Int32 × CS} {s0 : CS} {r0 : RS} {nm : Nat → Nat → Prop} {AL : Als} {s : CS} {r : RS} {mu : Nat → Nat} {h p q w g : Nat} {c : List Ent} {x : Int32} {U : Int32 × RS} (hct : HCT nm AL) (pt : PTX N H D T s0 r0 nm AL s r mu h p q w g c x) (hq : (q : Int) < (r0.i 20).toInt) (u : UAre s0 r0 AL p q h w c) (e : f_X12_run_122 N n r = some U) : NXTW N H D T s0 r0 nm AL n U := by
  obtain ⟨y1, y2, a, c0, ec, ak, p', q', w', ⟨y3, y4⟩, y5, y6⟩ := u
  obtain ⟨m, S, V, hn, ⟨e1, e2, e3, e4⟩, ⟨v1, v2, v3⟩, ⟨o1, o2⟩, oc, ⟨hp, hq3⟩, x1⟩ := pt_tick hN hct pt hq (by omega) e
  have rf := pt.2.1
  have h21 : r.a 21 q = r0.a 21 q := by rw [rf.2 21 (by decide)]
  have h23 : r.a 23 = r0.a 23 := rf.2 23 (by decide)
  have mc := pt.2.2.1.1
  obtain ⟨-, ck, -⟩ := hct _ _ _ _ _ _ pt.2.2.2.2.1
  obtain ⟨t1, t2, t3⟩ := un_nx mc (by omega) (by omega)
  have dy := pt.2.2.1.2.1.ex ck t2 t3
  have tr := pt.2.2.1.2.2.ex t2 t3
  have gn := gcr_nn (g := g)
  have gn' := gpo_nn (g := g)
  have b6 := pt.2.2.2.2.2
  have ex := t1.exb dy tr
  rw [ec] at ex b6
  obtain ⟨x72, ⟨xv, xm, xn⟩, ⟨⟨⟨d0, d1⟩, ⟨d2, d2'⟩, d3, ⟨d4, d5⟩, d6, d7⟩, op⟩, xt⟩ := id ex
  have hf : frs (a :: c0) = frs c0 := frs_eq (by omega)
  have fl := fps_le (e := a) (c := c0)
  obtain ⟨z1, z2⟩ := idx1 (r := rNx r) (k := c0.length) d2'
  rcases d1 with ⟨k0, -⟩ | ⟨k0, -⟩ | ⟨k0, -⟩ | ⟨k0, -⟩ | ⟨k0, -⟩ | ⟨k5, a1, a2, a3⟩
  · omega
  · omega
  · omega
  · omega
  · omega
  · have g1 := xp_30 (r := rNx r) (by rw [mc.clq]; exact h21.trans y2) v1
    rw [z2, cl_nat a2] at g1
    have eS : S = CS.setI (cNx s) 66 (cTg s (cAr s)) := xi_30 (o1.trans y1) e1
    have sm : SAM (cNx s) (cNx s) (rNx r) (RS.setI (rNx r) 99 ((rNx r).i 99 - 1)) := ⟨fun _ _ _ _ => rfl, fun _ _ => rfl, ⟨rfl, rfl, rfl, rfl, rfl⟩, fun j _ _ q => ri_ne q, fun _ _ _ _ => rfl⟩
    have ex1 : EXB nm (cNx s) (RS.setI (rNx r) 99 ((rNx r).i 99 - 1)) mu AL h c0 (-(gcr g)) := exb_sam ex (by omega) sm (xm.of rfl rfl rfl (ri_ne (by decide)) (ri_ne (by decide)) rfl rfl) (by rw [ri_ne (by decide)]; exact a3) (by rw [d2, hf]) (by rw [ri_at]; exact z1) (d3.trans (hS_of rfl 8).symm)
    have ex2 : EXB nm S V mu AL h c0 (-(gcr g)) := ex1.wpl (by
      rw [eS, g1]
      exact ⟨fun j a _ _ _ => ci_ne _ _ _ a, rfl, ⟨rfl, rfl, rfl, rfl⟩, fun j a _ => ri_ne a, rfl⟩)
    have v80 : V.i 80 = r.i 80 := by rw [g1, ri_ne (by decide), ri_ne (by decide), rNx_i (by decide)]
    refine Or.inl ⟨m, S, V, mu, h, p', q', w', 0, c0, x + 1, by omega, ⟨e3 ex2.1, v3, (ex2.n0 (n' := 0) (by omega)).syn (by rw [eS, ci_ne _ _ _ (by decide)]; exact t1.1.1.2) (by rw [eS, ci_at, oc, o2]; exact y3) (by rw [g1, ri_at]; show (r.a 23 a.x).toInt = _; rw [h23]; exact y4), BTP.no (by decide), y6, ?_⟩, v2⟩
    rw [v80, x1]
    show x.toInt + 1 + (fps c0 : Int) + w' + 0 ≤ _
    omega
/-- a row ends: the class does nothing -/
def URwp (r0 : RS) (AL : Als) (p q h w : Nat) (c : List Ent) : Prop := r0.a 21 q = 25 ∧ ∃ (a : Ent) (c0 : List Ent) (w' : Nat), c = a :: c0 ∧ a.k = 4 ∧ AL p (q + 1) h w' 0 c0 ∧ w' ≤ w
theorem u_rwp {N H n : Nat} {D : Nat → List Nat} {T : Int32 × CS} {s0 : CS} {r0 : RS} {nm : Nat → Nat → Prop} {AL : Als} {s : CS} {r : RS} {mu : Nat → Nat} {h p q w g : Nat} {c : List Ent} {x : Int32} {U : Int32 × RS} (hct : HCT nm AL) (pt : PTX N H D T s0 r0 nm AL s r mu h p q w g c x) (hq : (q : Int) < (r0.i 20).toInt) (u : URwp r0 AL p q h w c) (e : f_X12_run_122 N n r = some U) : NXTW N H D T s0 r0 nm AL n U := by
  obtain ⟨y2, a, c0, w', ec, ak, y5, y6⟩ := u
  obtain ⟨p1, p2, ⟨mc, p4, p5⟩, p6, p7, p8⟩ := pt
  obtain ⟨⟨hp, hq3⟩, ck, -⟩ := hct _ _ _ _ _ _ p7
  have h21 : r.a 21 q = r0.a 21 q := by rw [p2.2 21 (by decide)]
  have gn := gcr_nn (g := g)
  have gn' := gpo_nn (g := g)
  have q92 := mc.1.2.2
  have i20 : r.i 20 = r0.i 20 := p2.1 20 (by decide)
  cases n with
  | zero => cases e
  | succ m =>
    obtain ⟨V, v1, v2⟩ := rn_one (by omega) (by rw [i20]; omega) e
    have g1 := xp_25 (r := rNx r) (by rw [mc.clq]; exact h21.trans y2) v1
    have ex := mc.exb p4 p5
    rw [ec] at ex p8
    obtain ⟨x72, ⟨xv, xm, xn⟩, ⟨⟨⟨d0, d1⟩, ⟨d2, d2'⟩, d3, ⟨d4, d5⟩, d6, d7⟩, op⟩, xt⟩ := id ex
    have hf : frs (a :: c0) = frs c0 := frs_eq (by omega)
    have fl := fps_le (e := a) (c := c0)
    have d2n : ((rNx r).i 99).toInt = ((a :: c0).length : Int) := by
      rw [rNx_i (by decide)]
      exact d2'
    obtain ⟨z1, z2⟩ := idx1 (r := rNx r) (k := c0.length) d2n
    rcases d1 with ⟨k0, -⟩ | ⟨k0, -⟩ | ⟨k0, -⟩ | ⟨k0, -⟩ | ⟨k4, a1, m0, a2, a3⟩ | ⟨k0, -⟩
    · omega
    · omega
    · omega
    · omega
    · obtain ⟨i, b1, b2, b3, b4, -⟩ := a2
      rw [z2] at g1
      obtain ⟨R, hR⟩ : ∃ R, R = RS.setI (RS.setI r 97 (r.a 101 c0.length)) 99 (r.i 99 - 1) := ⟨_, rfl⟩
      have r99 : (rNx r).i 99 = r.i 99 := rNx_i (by decide)
      rw [r99] at z1 g1
      have sm : SAM s s r R := by
        rw [hR]
        exact ⟨fun _ _ _ _ => rfl, fun _ _ => rfl, ⟨rfl, rfl, rfl, rfl, rfl⟩, fun j _ q1 q2 => by rw [ri_ne q2, ri_ne q1], fun _ _ _ _ => rfl⟩
      have m97 : (R.i 97).toInt = m0 := by
        rw [hR, ri_ne (by decide), ri_at]
        exact b4
      have ex1 : EXB nm s R mu AL h c0 (-(gcr g)) := exb_sam ex (by omega) sm (xm.of rfl rfl rfl (by rw [hR, ri_ne (by decide), ri_ne (by decide)]) (by rw [hR, ri_ne (by decide), ri_ne (by decide)]) (by rw [hR]; rfl) (by rw [hR]; rfl)) (by rw [m97]; exact a3) (by rw [d2, hf]) (by rw [hR, ri_at]; exact z1) (by rw [d3, hR]; exact (hS_of rfl 8).symm)
      have Vi : ∀ j : Nat, j ≠ 92 → V.i j = R.i j := fun j q1 => by
        rw [g1, hR]
        by_cases q2 : j = 99
        · rw [q2, ri_at, ri_at]
        · by_cases q3 : j = 97
          · rw [q3, ri_ne (by decide), ri_at, ri_ne (by decide), ri_at]
            rfl
          · rw [ri_ne q2, ri_ne q3, ri_ne q2, ri_ne q3, rNx_i q1]
      have Va : V.a = R.a := by
        rw [g1, hR]
        rfl
      have ex2 : EXB nm s V mu AL h c0 (-(gcr g)) := ex1.wpl ⟨fun _ _ _ _ _ => rfl, rfl, ⟨rfl, rfl, rfl, rfl⟩, fun j a _ => Vi j a, Va⟩
      have v80 : V.i 80 = r.i 80 := by rw [Vi 80 (by decide), hR, ri_ne (by decide), ri_ne (by decide)]
      have v92 : (V.i 92).toInt = ((q + 1 : Nat) : Int) := by
        rw [g1, ri_ne (by decide), ri_ne (by decide)]
        unfold rNx
        rw [ri_at, ad1 (by omega) (by omega), q92]
        rfl
      have rv : RFX r0 V := p2.tr ⟨fun j hj => by rw [Vi j (by omega), hR, ri_ne (by omega), ri_ne (by omega)], fun k _ => by rw [Va, hR]; rfl⟩
      refine Or.inl ⟨m, s, V, mu, h, p, q + 1, w', 0, c0, x, by omega, ⟨p1, rv, (ex2.n0 (n' := 0) (by omega)).syn mc.1.1.2 mc.1.2.1 v92, BTP.no (by decide), y5, ?_⟩, v2⟩
      rw [v80]
      show x.toInt + (fps c0 : Int) + w' + 0 ≤ _
      omega
    · omega
end
section
/-! both machines: jumps that leave no frame; a row of values -/
theorem rows_eq {r : RS} {c0 : List Ent} : ∀ {c1 : List Ent}, (∀ e ∈ c1, 3 < e.k) → frs (c1 ++ c0) = frs c0 ∧ ops (c1 ++ c0) = ops c0 ∧ tps (c1 ++ c0) = tps c0 ∧ fps (c1 ++ c0) = fps c0 ∧ ∀ o : Int, RCO r (c1 ++ c0) o → RCO r c0 o
  | [], _ => ⟨rfl, rfl, rfl, rfl, fun _ h => h⟩
  | e :: c1, h => by
    have hk := h e List.mem_cons_self
    obtain ⟨i1, i2, i3, i4, i5⟩ := rows_eq (r := r) (c0 := c0) (c1 := c1) (fun a ha => h a (List.mem_cons_of_mem _ ha))
    refine ⟨?_, ?_, ?_, ?_, fun o g => i5 o (g.2 (by omega))⟩
    · show frs (c1 ++ c0) + (if e.k ≤ 3 then 1 else 0) = frs c0
      rw [if_neg (by omega), i1]
      rfl
    · show ops (c1 ++ c0) + (if e.k = 1 then e.z else 0) = ops c0
      rw [if_neg (by omega), i2]
      rfl
    · show tps (c1 ++ c0) + (if e.k = 1 then 2 else if e.k = 2 then 1 else 0) = tps c0
      rw [if_neg (by omega), if_neg (by omega), i3]
      rfl
    · show fps (c1 ++ c0) + (if e.k = 0 then 2 else if e.k = 1 then 1460 else if e.k = 2 then 1154 else if e.k = 3 then 1152 else 0) = fps c0
      rw [if_neg (by omega), if_neg (by omega), if_neg (by omega), if_neg (by omega), i4]
      rfl
theorem lv_rows {N : Nat} {s : CS} {mu : Nat → Nat} {AL : Als} {c0 : List Ent} : ∀ (c1 : List Ent) (n0 : Nat) (r V : RS), (∀ e ∈ c1, 3 < e.k) → FRS s r mu AL (c1 ++ c0) (r.i 97).toInt → (r.i 99).toInt = ((c1 ++ c0).length : Int) → r.i 110 = 1 → (r.i 112).toInt = (c0.length : Int) → f_X12_leave_0 N n0 r = some V → V.i 92 = r.i 111 ∧ (V.i 99).toInt = (c0.length : Int) ∧ FRS s V mu AL c0 (V.i 97).toInt ∧ (∀ j : Nat, j ≠ 92 → j ≠ 97 → j ≠ 99 → V.i j = r.i j) ∧ V.a = r.a := by
  intro c1
  induction c1 with
  | nil =>
    intro n0 r V _ fr h99 h110 h112 g
    cases n0 with
    | zero => cases g
    | succ n0 =>
      have h99' : (r.i 99).toInt = (c0.length : Int) := h99
      have eV := lv_g1 h110 (by rw [Int32.le_iff_toInt_le]; omega) g
      rw [eV]
      refine ⟨ri_at, by rw [ri_ne (by decide)]; exact h99, ?_, fun j a _ _ => ri_ne a, rfl⟩
      rw [ri_ne (by decide)]
      exact FRS.of (nu := mu) fr (FEQ.ri (by decide) (by decide))
  | cons a c1 ih =>
    intro n0 r V hk fr h99 h110 h112 g
    cases n0 with
    | zero => cases g
    | succ n0 =>
      have el : ((a :: c1 ++ c0).length : Int) = ((c1 ++ c0).length : Int) + 1 := by
        show (((c1 ++ c0).length + 1 : Nat) : Int) = _
        omega
      have ll : (c1 ++ c0).length = c1.length + c0.length := List.length_append
      have g1 := lv_ng (Or.inl ⟨Or.inl h110, fun q => by have := le_int q; omega⟩) g
      have ka := hk a List.mem_cons_self
      obtain ⟨x1, x2⟩ := idx1 (r := r) (k := (c1 ++ c0).length) (by rw [h99, el]; omega)
      obtain ⟨-, fr⟩ := fr
      have go : ∀ R : RS, R.a = r.a → (∀ j : Nat, j ≠ 97 → j ≠ 99 → R.i j = r.i j) → (R.i 99).toInt = ((c1 ++ c0).length : Int) → FRS s r mu AL (c1 ++ c0) (R.i 97).toInt → f_X12_leave_0 N n0 R = some V → V.i 92 = r.i 111 ∧ (V.i 99).toInt = (c0.length : Int) ∧ FRS s V mu AL c0 (V.i 97).toInt ∧ (∀ j : Nat, j ≠ 92 → j ≠ 97 → j ≠ 99 → V.i j = r.i j) ∧ V.a = r.a := fun R ra ri r99 rfr rg => by
        have sm : SAM s s r R := ⟨fun _ _ _ _ => rfl, fun _ _ => rfl, ⟨rfl, rfl, rfl, rfl, rfl⟩, fun j _ q1 q2 => ri j q1 q2, fun k _ _ _ => by rw [ra]⟩
        obtain ⟨i1, i2, i3, i4, i5⟩ := ih n0 R V (fun z hz => hk z (List.mem_cons_of_mem _ hz)) (rfr.of sm.feq) r99 (by rw [ri 110 (by decide) (by decide)]; exact h110) (by rw [ri 112 (by decide) (by decide)]; exact h112) rg
        exact ⟨i1.trans (ri 111 (by decide) (by decide)), i2, i3, fun j a b d => (i4 j a b d).trans (ri j b d), i5.trans ra⟩
      rcases fr with ⟨k0, -⟩ | ⟨k0, -⟩ | ⟨k0, -⟩ | ⟨k0, -⟩ | ⟨k4, a1, m0, a2, a3⟩ | ⟨k5, a1, a2, a3⟩
      · omega
      · omega
      · omega
      · omega
      · obtain ⟨i, b1, b2, b3, b4, -⟩ := a2
        exact go (RS.setI (RS.setI r 97 (r.a 101 (c1 ++ c0).length)) 99 (r.i 99 - 1)) rfl (fun j q1 q2 => by rw [ri_ne q2, ri_ne q1]) (by rw [ri_at]; exact x1) (by rw [ri_ne (by decide), ri_at, show (r.a 101 (c1 ++ c0).length).toInt = m0 from b4]; exact a3) (lv_r2 x2 a1 g1)
      · exact go (RS.setI r 99 (r.i 99 - 1)) rfl (fun j q1 q2 => by rw [ri_ne q2]) (by rw [ri_at]; exact x1) (by rw [ri_ne (by decide)]; exact a3) (lv_r3 x2 a1 g1)
/-- GOTO against GO: no frame is left -/
def UGo3 (s0 : CS) (r0 : RS) (AL : Als) (p q h w : Nat) (c : List Ent) : Prop := s0.a 15 p = 30 ∧ r0.a 21 q = 36 ∧ ∃ c1 c0 : List Ent, c = c1 ++ c0 ∧ (∀ e ∈ c1, 3 < e.k) ∧ (r0.a 23 q).toInt = (c0.length : Int) ∧ JX s0 AL (s0.a 16 p) (r0.a 22 q) h w 1 0 c0
theorem u_go3 {N H n : Nat} (hN : 10000000000 ≤ N) {D : Nat → List Nat} {T : Int32 × CS} {s0 : CS} {r0 : RS} {nm : Nat → Nat → Prop} {AL : Als} {s : CS} {r : RS} {mu : Nat → Nat} {h p q w g : Nat} {c : List Ent} {x : Int32} {U : Int32 × RS} (hct : HCT nm AL) (pt : PTX N H D T s0 r0 nm AL s r mu h p q w g c x) (hq : (q : Int) < (r0.i 20).toInt) (u : UGo3 s0 r0 AL p q h w c) (e : f_X12_run_122 N n r = some U) : NXTW N H D T s0 r0 nm AL n U := by
  obtain ⟨y1, y2, c1, c0, ec, hk, y3, p', q', w', ⟨y4, y5⟩, y6, y7⟩ := u
  obtain ⟨m, S, V, hn, ⟨e1, e2, e3, e4⟩, ⟨v1, v2, v3⟩, ⟨o1, o2⟩, oc, ⟨hp, hq3⟩, x1⟩ := pt_tick hN hct pt hq (by omega) e
  have rf := pt.2.1
  have h21 : r.a 21 q = r0.a 21 q := by rw [rf.2 21 (by decide)]
  have h22 : r.a 22 q = r0.a 22 q := by rw [rf.2 22 (by decide)]
  have h23 : r.a 23 q = r0.a 23 q := by rw [rf.2 23 (by decide)]
  have mc := pt.2.2.1.1
  obtain ⟨-, ck, -⟩ := hct _ _ _ _ _ _ pt.2.2.2.2.1
  obtain ⟨t1, t2, t3⟩ := un_nx mc (by omega) (by omega)
  have dy := pt.2.2.1.2.1.ex ck t2 t3
  have tr := pt.2.2.1.2.2.ex t2 t3
  have gn := gcr_nn (g := g)
  have gn' := gpo_nn (g := g)
  have b6 := pt.2.2.2.2.2
  have lv := xa_36 (r := rNx r) (by rw [mc.clq]; exact h21.trans y2) v1
  rw [mc.clq] at lv
  obtain ⟨W, hW⟩ : ∃ W, W = RS.setI (RS.setI (RS.setI (rNx r) 110 1) 111 ((rNx r).a 22 q)) 112 ((rNx r).a 23 q) := ⟨_, rfl⟩
  rw [← hW] at lv
  have eS : S = CS.setI (cNx s) 66 (cTg s (cAr s)) := xi_30 (o1.trans y1) e1
  have exW : EXB nm S W mu AL h c (-(gcr g)) := (t1.exb dy tr).wpl (by
    rw [eS, hW]
    exact ⟨fun j a _ _ _ => ci_ne _ _ _ a, rfl, ⟨rfl, rfl, rfl, rfl⟩, fun j _ a => by rw [ri_ne (by omega), ri_ne (by omega), ri_ne (by omega)], rfl⟩)
  have W110 : W.i 110 = 1 := by rw [hW, ri_ne (by decide), ri_ne (by decide), ri_at]
  have W111 : W.i 111 = r0.a 22 q := by
    rw [hW, ri_ne (by decide), ri_at]
    exact h22
  have W112 : W.i 112 = r0.a 23 q := by
    rw [hW, ri_at]
    exact h23
  have W80 : W.i 80 = r.i 80 := by rw [hW, ri_ne (by decide), ri_ne (by decide), ri_ne (by decide), rNx_i (by decide)]
  clear hW
  rw [ec] at exW b6
  obtain ⟨x72, ⟨xv, xm, xn⟩, ⟨⟨d1, ⟨d2, d2'⟩, d3, ⟨d4, d5⟩, d6, d7⟩, ⟨q1, q2, q3, q4, q5, q6⟩⟩, xt⟩ := exW
  obtain ⟨k1, k2, k3, k4, k5⟩ := rows_eq (r := W) (c0 := c0) hk
  rw [k4] at b6
  rw [k1] at d2
  rw [k2] at q3 q4
  rw [k3] at d5
  obtain ⟨g1, g2, g3, g4, g5⟩ := lv_rows c1 N W V hk d1 d2' W110 (by rw [W112]; exact y3) lv
  have v80 : V.i 80 = r.i 80 := (g4 80 (by decide) (by decide) (by decide)).trans W80
  have i85 := g4 85 (by decide) (by decide) (by decide)
  have i95 := g4 95 (by decide) (by decide) (by decide)
  have ex : EXB nm S V mu AL h c0 0 := by
    refine ⟨x72, ⟨xv.of rfl rfl (g4 93 (by decide) (by decide) (by decide)) (by rw [g5]), xm.of rfl rfl rfl (g4 80 (by decide) (by decide) (by decide)) (g4 81 (by decide) (by decide) (by decide)) (by rw [g5]) (by rw [g5]), by rw [g5]; exact xn⟩, ⟨⟨g3, ⟨d2, g2⟩, d3.trans (hS_of (by rw [g5]) 8).symm, ⟨by rw [i85]; exact d4, by rw [i85, g4 80 (by decide) (by decide) (by decide)]; omega⟩, ?_, (g4 115 (by decide) (by decide) (by decide)).trans d7⟩, ⟨by rw [i95]; exact q1, by rw [i95]; exact q2, by rw [i95]; exact q3, q4, by rw [i95, g5]; exact q5, by rw [i95]; exact (k5 _ q6).of (fun k _ => by rw [g5])⟩⟩, xt.of (fun _ _ => rfl) (fun _ _ => rfl) ⟨fun j hj => g4 j (by omega) (by omega) (by omega), fun k _ => by rw [g5]⟩⟩
    unfold MUI at *
    rw [i85]
    exact d6
  refine Or.inl ⟨m, S, V, mu, h, p', q', w', 0, c0, x + 1, by omega, ⟨e3 x72, v3, ex.syn (by rw [eS, ci_ne _ _ _ (by decide)]; exact t1.1.1.2) (by rw [eS, ci_at, oc, o2]; exact y4) (by rw [g1, W111]; exact y5), BTP.no (by decide), y7, ?_⟩, v2⟩
  rw [v80, x1]
  show x.toInt + 1 + (fps c0 : Int) + w' + 0 ≤ _
  omega
/-- the class fills a row of cells -/
theorem xi_36 {N : Nat} {s : CS} {R : Unit × CS} (h : cOp s = 36) (e : f_X3_instruction N s = some R) : f_X3_fillRow N (cNx s) (cAr s) = some R := by
  have z := xi_ste (by rw [h]; decide) (by rw [h]; decide) (by rw [h]; decide) e
  rw [h] at z
  unfold f_X3_steer at z
  rw [if_neg (by decide), if_neg (by decide), if_neg (by decide), if_neg (by decide), if_neg (by decide), if_neg (by decide), if_pos rfl] at z
  exact ob_un z
theorem fill_c {N b : Nat} {x1 : Int32} (hb : x1.toInt = (b : Int)) : ∀ (k m : Nat) (s : CS) (x3 : Int32) (h : Nat) (R : Unit × CS), x3.toInt = (k : Int) - 1 → (s.i 65).toInt = (h : Int) + k → h + k ≤ 600 → b + 2 + k ≤ 720 → f_X3_fillRow_29 N m s x1 x3 = some R → (∀ j : Nat, j ≠ 65 → R.2.i j = s.i j) ∧ (R.2.i 65).toInt = (h : Int) ∧ (∀ j : Nat, j ≠ 59 → R.2.a j = s.a j) ∧ (R.2.r = s.r ∧ R.2.w = s.w ∧ R.2.o = s.o ∧ R.2.ot = s.ot ∧ R.2.oa = s.oa) ∧ (∀ j : Nat, j < k → R.2.a 59 (b + 2 + j) = s.a 60 (h + j)) ∧ ∀ j : Nat, j < b + 2 ∨ b + 2 + k ≤ j → R.2.a 59 j = s.a 59 j := by
  intro k
  induction k with
  | zero =>
    intro m s x3 h R hx h65 h6 h7 e
    cases m with
    | zero => cases e
    | succ m =>
      have e' : b_X3_fillRow_29 N (f_X3_fillRow_29 N m) s x1 x3 = some R := e
      unfold b_X3_fillRow_29 at e'
      rw [if_pos (by rw [Int32.lt_iff_toInt_lt, z_t0]; omega)] at e'
      rw [← Option.some.inj e']
      exact ⟨fun _ _ => rfl, by show (s.i 65).toInt = (h : Int); omega, fun _ _ => rfl, ⟨rfl, rfl, rfl, rfl, rfl⟩, fun j hj => absurd hj (Nat.not_lt_zero j), fun _ _ => rfl⟩
  | succ k ih =>
    intro m s x3 h R hx h65 h6 h7 e
    cases m with
    | zero => cases e
    | succ m =>
      have e' : b_X3_fillRow_29 N (f_X3_fillRow_29 N m) s x1 x3 = some R := e
      unfold b_X3_fillRow_29 at e'
      rw [if_neg (by rw [Int32.lt_iff_toInt_lt, z_t0]; omega), e_cPo, ob_some] at e'
      have em : ((-1 : Int32)).toInt = -1 := by decide
      have e2 : (2 : Int32).toInt = 2 := by decide
      have a1 : (x1 + 2).toInt = (b : Int) + 2 := by rw [toInt_add] <;> rw [e2] <;> omega
      have a2 : (x1 + 2 + x3).toInt = ((b + 2 + k : Nat) : Int) := by rw [toInt_add] <;> rw [a1] <;> omega
      have ct : cTp s = s.a 60 (h + k) := cTp_at (h := h + k) (by omega) (by omega)
      have gp : gPut ((cPo s).a 59) 720 (x1 + 2 + x3) (cTp s) = upd (s.a 59) (b + 2 + k) (s.a 60 (h + k)) := by
        unfold gPut
        rw [if_pos ⟨by omega, by omega⟩, cl_nat a2, ct]
        rfl
      have e3 : f_X3_fillRow_29 N m (CS.putA (cPo s) 59 (upd (s.a 59) (b + 2 + k) (s.a 60 (h + k)))) x1 (x3 + -1) = some R := by
        rw [← gp]
        exact e'
      obtain ⟨Y, hY⟩ : ∃ Y, Y = CS.putA (cPo s) 59 (upd (s.a 59) (b + 2 + k) (s.a 60 (h + k))) := ⟨_, rfl⟩
      rw [← hY] at e3
      have Yi : ∀ j : Nat, j ≠ 65 → Y.i j = s.i j := fun j a => by
        rw [hY]
        exact cPo_i a
      have Y65 : (Y.i 65).toInt = (h : Int) + k := by
        rw [hY]
        show ((CS.setI s 65 (s.i 65 - 1)).i 65).toInt = _
        rw [ci_at]
        exact sub_n1 (c := h + k) (by omega)
      have Ya : ∀ j : Nat, j ≠ 59 → Y.a j = s.a j := fun j a => by
        rw [hY, cpA_ne a]
        rfl
      have Y59 : ∀ j : Nat, Y.a 59 j = if j = b + 2 + k then s.a 60 (h + k) else s.a 59 j := fun j => by
        rw [hY]
        rfl
      have Yr : Y.r = s.r ∧ Y.w = s.w ∧ Y.o = s.o ∧ Y.ot = s.ot ∧ Y.oa = s.oa := by
        rw [hY]
        exact ⟨rfl, rfl, rfl, rfl, rfl⟩
      clear hY
      obtain ⟨i1, i2, i3, ⟨i4, i5, i6, i7, i8⟩, i9, i10⟩ := ih m Y (x3 + -1) h R (by rw [toInt_add] <;> rw [em] <;> omega) Y65 (by omega) (by omega) e3
      obtain ⟨r1, r2, r3, r4, r5⟩ := Yr
      refine ⟨fun j a => (i1 j a).trans (Yi j a), i2, fun j a => (i3 j a).trans (Ya j a), ⟨i4.trans r1, i5.trans r2, i6.trans r3, i7.trans r4, i8.trans r5⟩, fun j hj => ?_, fun j hj => ?_⟩
      · by_cases z : j = k
        · rw [z, i10 (b + 2 + k) (by omega), Y59, if_pos rfl]
        · rw [i9 j (by omega), Ya 60 (by decide)]
      · rw [i10 j (by omega), Y59, if_neg (by omega)]
/-- the reference: values wait -/
theorem wait_r {N : Nat} {x2 x4 : Int32} {cnt h m0 : Nat} (h2 : x2.toInt = (cnt : Int)) (h6 : h + cnt ≤ 600) : ∀ (d n : Nat) (r V : RS) (x5 : Int32) (j : Nat), j + d = cnt → x5.toInt = (j : Int) → (r.i 93).toInt = (h : Int) + cnt → (r.i 97).toInt = (m0 : Int) + j → f_X12_others_85 N n r x2 x4 x5 = some V → ∃ (R : RS) (P : Int32 × RS), f_X12_record N (RS.setI R 93 (R.i 93 - x2)) 2 x4 x4 (R.i 97) = some P ∧ V = P.2 ∧ (∀ i : Nat, i ≠ 97 → R.i i = r.i i) ∧ (R.i 97).toInt = (m0 : Int) + cnt ∧ (∀ k : Nat, k ≠ 98 → R.a k = r.a k) ∧ (∀ i : Nat, i < m0 + j → R.a 98 i = r.a 98 i) ∧ ∀ i : Nat, j ≤ i → i < cnt → R.a 98 (m0 + i) = r.a 94 (h + i) := by
  intro d
  induction d with
  | zero =>
    intro n r V x5 j hj h5 h93 h97 g
    cases n with
    | zero => cases g
    | succ n =>
      have g' : b_X12_others_85 N (f_X12_others_85 N n) r x2 x4 x5 = some V := g
      unfold b_X12_others_85 at g'
      rw [if_pos (by rw [Int32.le_iff_toInt_le]; omega)] at g'
      obtain ⟨P, p1, p2⟩ := hf_bind g'
      exact ⟨r, P, p1, (Option.some.inj p2).symm, fun _ _ => rfl, by omega, fun _ _ => rfl, fun _ _ => rfl, fun i h1 h3 => by omega⟩
  | succ d ih =>
    intro n r V x5 j hj h5 h93 h97 g
    cases n with
    | zero => cases g
    | succ n =>
      have g' : b_X12_others_85 N (f_X12_others_85 N n) r x2 x4 x5 = some V := g
      unfold b_X12_others_85 at g'
      rw [if_neg (by rw [Int32.le_iff_toInt_le]; omega)] at g'
      obtain ⟨-, g1⟩ := hf_ite g'
      obtain ⟨i46, g2⟩ := hf_ite g1
      have l46 : m0 + j < 460 := by
        have := i46.2
        omega
      have a1 : (r.i 93 - x2).toInt = (h : Int) := by rw [toInt_sub] <;> rw [h2] <;> omega
      have a2 : (r.i 93 - x2 + x5).toInt = ((h + j : Nat) : Int) := by rw [toInt_add] <;> rw [a1] <;> omega
      have a3 : (r.i 97).toInt = ((m0 + j : Nat) : Int) := by omega
      rw [cl_nat a2, cl_nat a3] at g2
      obtain ⟨Y, hY⟩ : ∃ Y, Y = RS.setI (RS.setA r 98 (m0 + j) (r.a 94 (h + j))) 97 (r.i 97 + 1) := ⟨_, rfl⟩
      rw [← hY] at g2
      have Yi : ∀ i : Nat, i ≠ 97 → Y.i i = r.i i := fun i a => by
        rw [hY, ri_ne a]
        rfl
      have Y97 : (Y.i 97).toInt = (m0 : Int) + (j + 1 : Nat) := by
        rw [hY, ri_at, ad1 (by omega) (by omega), h97]
        omega
      have Ya : ∀ k : Nat, k ≠ 98 → Y.a k = r.a k := fun k a => by
        rw [hY]
        exact setA_nk (s := r) a
      have Y98 : ∀ i : Nat, Y.a 98 i = if i = m0 + j then r.a 94 (h + j) else r.a 98 i := fun i => by
        rw [hY]
        show (RS.setA r 98 (m0 + j) (r.a 94 (h + j))).a 98 i = _
        by_cases z : i = m0 + j
        · rw [z, setA_at, if_pos rfl]
        · rw [setA_ne z, if_neg z]
      clear hY
      obtain ⟨R, P, r1, r2, r3, r4, r5, r6, r7⟩ := ih n Y V (x5 + 1) (j + 1) (by omega) (by rw [ad1 (by omega) (by omega), h5]; omega) (by rw [Yi 93 (by decide)]; exact h93) Y97 g2
      refine ⟨R, P, r1, r2, fun i a => (r3 i a).trans (Yi i a), r4, fun k a => (r5 k a).trans (Ya k a), fun i hi => ?_, fun i h1 h3 => ?_⟩
      · rw [r6 i (by omega), Y98, if_neg (by omega)]
      · by_cases z : i = j
        · rw [z, r6 (m0 + j) (by omega), Y98, if_pos rfl]
        · rw [r7 i (by omega) h3, Ya 94 (by decide)]
end
