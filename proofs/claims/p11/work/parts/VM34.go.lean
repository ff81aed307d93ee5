/-! both machines: units that leave -/
theorem lv_fin {N H n m : Nat} {D : Nat → List Nat} {T : Int32 × CS} {s0 : CS} {r0 : RS} {nm : Nat → Nat → Prop} {AL : Als} {r V : RS} {U : Int32 × RS} (hn : m < n) (run : f_X12_run_122 N m V = some U) (rf : RFX r0 V) (lo : LVO N H D T s0 nm AL V (r.i 80) (3990 * (r.i 80).toInt + 10000)) : NXTW N H D T s0 r0 nm AL n U := by
  obtain ⟨e80, lo⟩ := lo
  rcases lo with ⟨S, x, mu, h, p, q, w, c, l1, l2, l3, l4⟩ | ⟨S, l1, l2, l3, l4⟩
  · refine Or.inl ⟨m, S, V, mu, h, p, q, w, 0, c, x, hn, ⟨l1, rf, l2, BTP.no (by decide), l3, ?_⟩, run⟩
    rw [e80]
    show x.toInt + fps c + w + 0 ≤ _
    omega
  · have ru := rn_end (Or.inl l2) run
    unfold f_X12_run_163 at ru
    right
    rcases l4 with ⟨a, b⟩ | ⟨a, b⟩
    · rw [if_pos b] at ru
      rw [l1, ← Option.some.inj ru]
      exact ⟨l3, a⟩
    · rw [if_neg (by rw [b]; decide), if_pos b] at ru
      rw [l1, ← Option.some.inj ru]
      exact ⟨l3, a⟩
theorem lvr_mk {nm : Nat → Nat → Prop} {A S : CS} {R W : RS} {mu : Nat → Nat} {AL : Als} {h p q u : Nat} {c : List Ent} {n0 : Int} (m : MCO nm A R h p q) (d : DYN A R mu AL c n0) (hn : n0 ≤ 0) (t : TLR A R) (ei : ∀ j : Nat, j ≠ 73 → j ≠ 74 → j ≠ 75 → S.i j = A.i j) (ea : S.a = A.a) (er : S.r = A.r ∧ S.o = A.o ∧ S.ot = A.ot ∧ S.oa = A.oa) (gi : ∀ j : Nat, j < 110 ∨ 114 < j → W.i j = R.i j) (ga : W.a = R.a) (wy : WYS S W mu AL c h u (S.i 73) (S.i 74) (S.i 75) S.w (W.i 110) (W.i 111) (W.i 112) (W.i 113) (W.i 114)) : LVR nm S W mu AL h c 0 u := by
  obtain ⟨⟨⟨m1, m2⟩, m3, m4⟩, m5, m6, m7⟩ := m
  obtain ⟨⟨d1, d2, d3, ⟨d4, d5⟩, d6, d7⟩, o⟩ := d
  obtain ⟨a1, a2, a3, a4⟩ := er
  have tlv : ∀ b : Nat, TLV A R mu b → TLV S W mu b := fun b t => by
    unfold TLV THG inP at *
    rw [a1, a2, a4, ga, gi 85 (by omega), gi 3 (by omega)]
    exact t
  have feq : FEQ A S R W mu mu c (R.i 97).toInt := ⟨fun i f _ hf => ⟨by rw [a1]; exact hf, by rw [a2], by rw [a3]⟩, fun b _ t => ⟨tlv b t, rfl, by rw [ga]⟩, ⟨by rw [ea], by rw [ga], by rw [ga], by rw [ga], by rw [ga]⟩, fun j k _ _ _ => by rw [ga], fun a _ => ⟨fun k _ => by rw [ea], fun l _ => by rw [ga]⟩, fun j _ => by rw [ga]⟩
  refine ⟨(ei 72 (by decide) (by decide) (by decide)).trans m1, ⟨(m5.of (ei 65 (by decide) (by decide) (by decide)) (by rw [ea]) (gi 93 (by omega)) (by rw [ga])).mvh, m6.of (ei 69 (by decide) (by decide) (by decide)) (ei 70 (by decide) (by decide) (by decide)) (by rw [ea]) (gi 80 (by omega)) (gi 81 (by omega)) (by rw [ga]) (by rw [ga]), by rw [ea, ga]; exact m7⟩, ⟨⟨by rw [gi 97 (by omega)]; exact d1.of feq, by rw [ei 67 (by decide) (by decide) (by decide), gi 99 (by omega)]; exact d2, by rw [ei 71 (by decide) (by decide) (by decide), hS_of (r := R) (R := W) (by rw [ga]) 8]; exact d3, by rw [gi 85 (by omega), gi 80 (by omega)]; exact ⟨d4, by omega⟩, ?_, (gi 115 (by omega)).trans d7⟩, ?_⟩, ⟨by decide, fun _ => rfl⟩, wy, t.of (fun j hj => ei j (by omega) (by omega) (by omega)) (fun k _ => by rw [ea]) ⟨fun j hj => gi j (by omega), fun k _ => by rw [ga]⟩⟩
  · unfold MUI at *
    rw [gi 85 (by omega)]
    exact d6
  · obtain ⟨o1, o2, o3, o4, o5, o6⟩ := o
    unfold OPW
    rw [ei 68 (by decide) (by decide) (by decide), gi 95 (by omega), ea, ga]
    exact ⟨o1, o2, o3, o4, o5, o6.of (fun k _ => by rw [ga])⟩
/-- a unit that leaves, in all -/
theorem lv_unit {N H n m : Nat} (hN : 10000000000 ≤ N) {D : Nat → List Nat} {T : Int32 × CS} {s0 : CS} {r0 : RS} {nm : Nat → Nat → Prop} {AL : Als} {s S : CS} {r W V : RS} {mu nu : Nat → Nat} {h p q w g h' u : Nat} {c c' : List Ent} {x y : Int32} {U : Int32 × RS} {n0 : Int} (hct : HCT nm AL) (pt : PTX N H D T s0 r0 nm AL s r mu h p q w g c x) (hn : m < n) (run : f_X12_run_122 N m V = some U) (rf : RFX r0 V) (cr : CRN N H D T s0 S y) (rw0 : RFX r0 W) (e80 : W.i 80 = r.i 80) (ck : CTK nm c' ∧ frs c' ≤ 22 ∧ ∀ e ∈ c', e.h ≤ h') (ty : TYC s0 r0 AL u c') (l : LVR nm S W nu AL h' c' n0 u) (hB : y.toInt + fps c' + u + 1 ≤ x.toInt + fps c + w + gpo g) (lv : f_X12_leave N W = some V) : NXTW N H D T s0 r0 nm AL n U := by
  have a15 : S.a 15 = s0.a 15 := cr.2.1.2.1 15 (by decide)
  have a16 : S.a 16 = s0.a 16 := cr.2.1.2.1 16 (by decide)
  have a17 : S.a 17 = s0.a 17 := cr.2.1.2.1 17 (by decide)
  have st := pt.2.2.1.1.2.2.1.1
  have b6 := pt.2.2.2.2.2
  have lo := lv_main hN (V := V) (B := 3990 * (r.i 80).toInt + 10000) hct (by omega) c' N S W nu n0 y ck.1 ck.2.1 ck.2.2 (TYC.cg a15 a16 a17 rw0 ty) cr l (by omega) lv
  rw [e80] at lo
  exact lv_fin hn run rf lo
theorem gcr_nn {g : Nat} : 0 ≤ gcr g := by
  unfold gcr
  by_cases z : g = 1
  · rw [if_pos z]
    decide
  · rw [if_neg z]
    decide
theorem gpo_nn {g : Nat} : 0 ≤ gpo g := by
  unfold gpo
  by_cases z : g = 1
  · rw [if_pos z]
    decide
  · rw [if_neg z]
    decide
theorem xa_rt {N : Nat} {r V : RS} {x o : Int32} (h : r.a 21 x.toNatClampNeg = o) (ho : o = 17 ∨ o = 18) (g0 : f_X12_act N r x = some V) : f_X12_leave N (RS.setI (RS.setI (RS.setI (rPo r) 113 (rTp r)) 110 (if o = 17 then 2 else 4)) 112 (r.a 23 x.toNatClampNeg)) = some V := by
  have g := xa_ends (by rw [h]; rcases ho with z | z <;> rw [z] <;> decide) g0
  unfold f_X12_ends f_X12_ends_128 at g
  obtain ⟨hi, g1⟩ := hf_ite g
  rcases ho with z | z
  · rw [z] at h ⊢
    rw [if_pos h] at g1
    obtain ⟨A, a1, g2⟩ := hf_bind g1
    rw [e_rPo a1] at g2
    have g3 := (if_pos (show (rPo r).a 21 x.toNatClampNeg = 17 from h)).symm.trans g2
    obtain ⟨B, b1, b2⟩ := hf_bind (hf_ite g3).2
    rw [if_pos rfl, ← Option.some.inj b2]
    exact b1
  · rw [z] at h ⊢
    rw [if_neg (by rw [h]; decide), if_pos h] at g1
    obtain ⟨A, a1, g2⟩ := hf_bind g1
    rw [e_rPo a1] at g2
    have g3 := (if_neg (show ¬ (rPo r).a 21 x.toNatClampNeg = 17 from fun q => absurd (h.symm.trans q) (by decide))).symm.trans g2
    obtain ⟨B, b1, b2⟩ := hf_bind (hf_ite g3).2
    rw [if_neg (by decide), ← Option.some.inj b2]
    exact b1
/-- RETURN, YIELD -/
def URet (s0 : CS) (r0 : RS) (AL : Als) (p q h w : Nat) (c : List Ent) : Prop := ∃ h' u : Nat, h = h' + 1 ∧ u + 2 ≤ w ∧ (∀ e ∈ c, e.h ≤ h') ∧ TYC s0 r0 AL u c ∧ ((s0.a 15 p = 62 ∧ r0.a 21 q = 17) ∨ (s0.a 15 p = 61 ∧ r0.a 21 q = 18 ∧ GL2 s0 r0 AL c h' (s0.a 16 p) (r0.a 23 q) u))
theorem u_ret {N H n : Nat} (hN : 10000000000 ≤ N) {D : Nat → List Nat} {T : Int32 × CS} {s0 : CS} {r0 : RS} {nm : Nat → Nat → Prop} {AL : Als} {s : CS} {r : RS} {mu : Nat → Nat} {h p q w g : Nat} {c : List Ent} {x : Int32} {U : Int32 × RS} (hct : HCT nm AL) (pt : PTX N H D T s0 r0 nm AL s r mu h p q w g c x) (hq : (q : Int) < (r0.i 20).toInt) (u : URet s0 r0 AL p q h w c) (e : f_X12_run_122 N n r = some U) : NXTW N H D T s0 r0 nm AL n U := by
  obtain ⟨h', u, eh, u1, u2, u3, u4⟩ := u
  obtain ⟨m, S, V, hn, ⟨e1, e2, e3, e4⟩, ⟨v1, v2, v3⟩, ⟨o1, o2⟩, oc, ⟨hp, hq3⟩, x1⟩ := pt_tick hN hct pt hq (by omega) e
  have rf := pt.2.1
  have h21 : r.a 21 q = r0.a 21 q := by rw [rf.2 21 (by decide)]
  have h23 : r.a 23 q = r0.a 23 q := by rw [rf.2 23 (by decide)]
  have mc := pt.2.2.1.1
  rw [eh] at mc
  obtain ⟨-, ck, -, d22, -⟩ := hct _ _ _ _ _ _ pt.2.2.2.2.1
  obtain ⟨t1, t2, t3, t4⟩ := un_tak mc (by omega) (by omega)
  have tp : rTp (rNx r) = cTp s := t4.symm
  have dy := pt.2.2.1.2.1.ex ck t2 t3
  have tr := pt.2.2.1.2.2.ex t2 t3
  have gn := gcr_nn (g := g)
  have gn' := gpo_nn (g := g)
  have wr : ∀ a b d : Int32, RFX r0 (RS.setI (RS.setI (RS.setI (rPo (rNx r)) 113 a) 110 b) 112 d) := fun a b d => rf.tr (t3.rfx.tr ⟨fun j hj => by rw [ri_ne (by omega), ri_ne (by omega), ri_ne (by omega)], fun _ _ => rfl⟩)
  have w80 : ∀ a b d : Int32, (RS.setI (RS.setI (RS.setI (rPo (rNx r)) 113 a) 110 b) 112 d).i 80 = r.i 80 := fun a b d => by rw [ri_ne (by decide), ri_ne (by decide), ri_ne (by decide), rPo_i (by decide), rNx_i (by decide)]
  rcases u4 with ⟨y1, y2⟩ | ⟨y1, y2, y3⟩
  · have eS : S = CS.setI (CS.setI (CS.setI (cPo (cNx s)) 73 3) 74 (cTp s)) 75 0 := xi_62 (o1.trans y1) e1
    have lv := xa_rt (r := rNx r) (by rw [mc.clq]; exact h21.trans y2) (Or.inl rfl) v1
    rw [if_pos rfl, tp] at lv
    have S72 : S.i 72 = -1 := by
      rw [eS, ci_ne _ _ _ (by decide), ci_ne _ _ _ (by decide), ci_ne _ _ _ (by decide)]
      exact t1.1.1.1
    have l : LVR nm S (RS.setI (RS.setI (RS.setI (rPo (rNx r)) 113 (cTp s)) 110 2) 112 ((rNx r).a 23 (r.i 92).toNatClampNeg)) mu AL h' c 0 u := by
      refine lvr_mk t1 dy (by omega) tr (fun j a b d => ?_) ?_ ?_ (fun j a => ?_) rfl (Or.inr (Or.inr (Or.inl ⟨?_, ?_, ?_, ?_⟩)))
      · rw [eS, ci_ne _ _ _ d, ci_ne _ _ _ b, ci_ne _ _ _ a]
      · rw [eS]
        rfl
      · rw [eS]
        exact ⟨rfl, rfl, rfl, rfl⟩
      · rw [ri_ne (by omega), ri_ne (by omega), ri_ne (by omega)]
      · rw [eS, ci_ne _ _ _ (by decide), ci_ne _ _ _ (by decide), ci_at]
      · rw [ri_ne (by decide), ri_at]
      · rw [eS, ci_ne _ _ _ (by decide), ci_at, ri_ne (by decide), ri_ne (by decide), ri_at]
      · rw [eS, ci_at]
    exact lv_unit hN hct pt (by omega) v2 v3 (e3 S72) (wr _ _ _) (w80 _ _ _) ⟨ck, d22, u2⟩ u3 l (by omega) lv
  · have eS : S = CS.setI (CS.setI (CS.setI (cPo (cNx s)) 73 2) 74 (cTp s)) 75 (cAr s) := xi_61 (o1.trans y1) e1
    have lv := xa_rt (r := rNx r) (by rw [mc.clq]; exact h21.trans y2) (Or.inr rfl) v1
    rw [if_neg (by decide), tp] at lv
    have S72 : S.i 72 = -1 := by
      rw [eS, ci_ne _ _ _ (by decide), ci_ne _ _ _ (by decide), ci_ne _ _ _ (by decide)]
      exact t1.1.1.1
    have a17 : S.a 17 = s0.a 17 := (e3 S72).2.1.2.1 17 (by decide)
    have l : LVR nm S (RS.setI (RS.setI (RS.setI (rPo (rNx r)) 113 (cTp s)) 110 4) 112 ((rNx r).a 23 (r.i 92).toNatClampNeg)) mu AL h' c 0 u := by
      refine lvr_mk t1 dy (by omega) tr (fun j a b d => ?_) ?_ ?_ (fun j a => ?_) rfl (Or.inr (Or.inl ⟨?_, ?_, ?_, ?_⟩))
      · rw [eS, ci_ne _ _ _ d, ci_ne _ _ _ b, ci_ne _ _ _ a]
      · rw [eS]
        rfl
      · rw [eS]
        exact ⟨rfl, rfl, rfl, rfl⟩
      · rw [ri_ne (by omega), ri_ne (by omega), ri_ne (by omega)]
      · rw [eS, ci_ne _ _ _ (by decide), ci_ne _ _ _ (by decide), ci_at]
      · rw [ri_ne (by decide), ri_at]
      · rw [eS, ci_ne _ _ _ (by decide), ci_at, ri_ne (by decide), ri_ne (by decide), ri_at]
      · have q75 : S.i 75 = s0.a 16 p := by rw [eS, ci_at, o2]
        have q112 : (RS.setI (RS.setI (RS.setI (rPo (rNx r)) 113 (cTp s)) 110 4) 112 ((rNx r).a 23 (r.i 92).toNatClampNeg)).i 112 = r0.a 23 q := by
          rw [ri_at, mc.clq]
          exact h23
        rw [q75, q112]
        exact y3.of a17 (rf.2 21 (by decide)) (rf.2 31 (by decide)) (rf.2 23 (by decide))
    exact lv_unit hN hct pt (by omega) v2 v3 (e3 S72) (wr _ _ _) (w80 _ _ _) ⟨ck, d22, u2⟩ u3 l (by omega) lv
/-- LEAVE against GO -/
def UGo (s0 : CS) (r0 : RS) (AL : Als) (p q h w : Nat) (c : List Ent) : Prop := s0.a 15 p = 60 ∧ r0.a 21 q = 36 ∧ ∃ u : Nat, u + 2 ≤ w ∧ TYC s0 r0 AL u c ∧ GL1 s0 r0 AL c h (s0.a 16 p) (r0.a 22 q) (r0.a 23 q) u
theorem u_go {N H n : Nat} (hN : 10000000000 ≤ N) {D : Nat → List Nat} {T : Int32 × CS} {s0 : CS} {r0 : RS} {nm : Nat → Nat → Prop} {AL : Als} {s : CS} {r : RS} {mu : Nat → Nat} {h p q w g : Nat} {c : List Ent} {x : Int32} {U : Int32 × RS} (hct : HCT nm AL) (pt : PTX N H D T s0 r0 nm AL s r mu h p q w g c x) (hq : (q : Int) < (r0.i 20).toInt) (u : UGo s0 r0 AL p q h w c) (e : f_X12_run_122 N n r = some U) : NXTW N H D T s0 r0 nm AL n U := by
  obtain ⟨y1, y2, u, u1, u3, y3⟩ := u
  obtain ⟨m, S, V, hn, ⟨e1, e2, e3, e4⟩, ⟨v1, v2, v3⟩, ⟨o1, o2⟩, oc, ⟨hp, hq3⟩, x1⟩ := pt_tick hN hct pt hq (by omega) e
  have rf := pt.2.1
  have h21 : r.a 21 q = r0.a 21 q := by rw [rf.2 21 (by decide)]
  have h22 : r.a 22 q = r0.a 22 q := by rw [rf.2 22 (by decide)]
  have h23 : r.a 23 q = r0.a 23 q := by rw [rf.2 23 (by decide)]
  have mc := pt.2.2.1.1
  obtain ⟨-, ck, -, d22, hh⟩ := hct _ _ _ _ _ _ pt.2.2.2.2.1
  obtain ⟨t1, t2, t3⟩ := un_nx mc (by omega) (by omega)
  have dy := pt.2.2.1.2.1.ex ck t2 t3
  have tr := pt.2.2.1.2.2.ex t2 t3
  have gn := gcr_nn (g := g)
  have gn' := gpo_nn (g := g)
  have eS : S = CS.setI (CS.setI (CS.setI (cNx s) 73 1) 74 0) 75 (cAr s) := xi_60 (o1.trans y1) e1
  have lv := xa_36 (r := rNx r) (by rw [mc.clq]; exact h21.trans y2) v1
  rw [mc.clq] at lv
  have S72 : S.i 72 = -1 := by
    rw [eS, ci_ne _ _ _ (by decide), ci_ne _ _ _ (by decide), ci_ne _ _ _ (by decide)]
    exact t1.1.1.1
  have a17 : S.a 17 = s0.a 17 := (e3 S72).2.1.2.1 17 (by decide)
  have l : LVR nm S (RS.setI (RS.setI (RS.setI (rNx r) 110 1) 111 ((rNx r).a 22 q)) 112 ((rNx r).a 23 q)) mu AL h c 0 u := by
    refine lvr_mk t1 dy (by omega) tr (fun j a b d => ?_) ?_ ?_ (fun j a => ?_) rfl (Or.inl ⟨?_, ?_, ?_⟩)
    · rw [eS, ci_ne _ _ _ d, ci_ne _ _ _ b, ci_ne _ _ _ a]
    · rw [eS]
      rfl
    · rw [eS]
      exact ⟨rfl, rfl, rfl, rfl⟩
    · rw [ri_ne (by omega), ri_ne (by omega), ri_ne (by omega)]
    · rw [eS, ci_ne _ _ _ (by decide), ci_ne _ _ _ (by decide), ci_at]
    · rw [ri_ne (by decide), ri_ne (by decide), ri_at]
    · have q75 : S.i 75 = s0.a 16 p := by rw [eS, ci_at, o2]
      have q111 : (RS.setI (RS.setI (RS.setI (rNx r) 110 1) 111 ((rNx r).a 22 q)) 112 ((rNx r).a 23 q)).i 111 = r0.a 22 q := by
        rw [ri_ne (by decide), ri_at]
        exact h22
      have q112 : (RS.setI (RS.setI (RS.setI (rNx r) 110 1) 111 ((rNx r).a 22 q)) 112 ((rNx r).a 23 q)).i 112 = r0.a 23 q := by
        rw [ri_at]
        exact h23
      rw [q75, q111, q112]
      exact y3.of a17 (rf.2 21 (by decide)) (rf.2 31 (by decide))
  have wr : RFX r0 (RS.setI (RS.setI (RS.setI (rNx r) 110 1) 111 ((rNx r).a 22 q)) 112 ((rNx r).a 23 q)) := rf.tr (t3.rfx.tr ⟨fun j hj => by rw [ri_ne (by omega), ri_ne (by omega), ri_ne (by omega)], fun _ _ => rfl⟩)
  have w80 : (RS.setI (RS.setI (RS.setI (rNx r) 110 1) 111 ((rNx r).a 22 q)) 112 ((rNx r).a 23 q)).i 80 = r.i 80 := by rw [ri_ne (by decide), ri_ne (by decide), ri_ne (by decide), rNx_i (by decide)]
  exact lv_unit hN hct pt (by omega) v2 v3 (e3 S72) wr w80 ⟨ck, d22, hh⟩ u3 l (by omega) lv
