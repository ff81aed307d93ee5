/-! both machines: a try begins; a resource is opened -/
theorem cpA_ne {s : CS} {k j : Nat} {f : Nat → Int32} (h : j ≠ k) : (CS.putA s k f).a j = s.a j := if_neg h
def UTry (s0 : CS) (r0 : RS) (AL : Als) (p q h w g : Nat) (c : List Ent) : Prop := s0.a 15 p = 54 ∧ r0.a 21 q = 31 ∧ g = 1 ∧ frs c ≤ 21 ∧ ∃ ex ey u : Nat, (s0.a 16 p).toInt = (ex : Int) ∧ (r0.a 22 q).toInt = (ey : Int) ∧ NXW AL (p + 1) (q + 1) h w 1 0 ((1, h, ex, ey, 0, 0, u) :: c)
theorem u_try {N H n : Nat} (hN : 10000000000 ≤ N) {D : Nat → List Nat} {T : Int32 × CS} {s0 : CS} {r0 : RS} {nm : Nat → Nat → Prop} {AL : Als} {s : CS} {r : RS} {mu : Nat → Nat} {h p q w g : Nat} {c : List Ent} {x : Int32} {U : Int32 × RS} (hct : HCT nm AL) (pt : PTX N H D T s0 r0 nm AL s r mu h p q w g c x) (hq : (q : Int) < (r0.i 20).toInt) (u : UTry s0 r0 AL p q h w g c) (e : f_X12_run_122 N n r = some U) : NXTW N H D T s0 r0 nm AL n U := by
  obtain ⟨u1, u2, ug, u4, ex, ey, uu, u7, u8, w', u5, u6⟩ := u
  obtain ⟨m, S, V, hn, ⟨e1, e2, e3, e4⟩, ⟨v1, v2, v3⟩, ⟨o1, o2⟩, oc, ⟨hp, hq3⟩, x1⟩ := pt_tick hN hct pt hq (by omega) e
  have rf := pt.2.1
  have h21 : r.a 21 q = r0.a 21 q := by rw [rf.2 21 (by decide)]
  have h22 : r.a 22 q = r0.a 22 q := by rw [rf.2 22 (by decide)]
  obtain ⟨p1, p2, ⟨mc, p4, p5⟩, p6, p7, p8⟩ := pt
  obtain ⟨t1, t2, t3⟩ := un_nx mc (by omega) (by omega)
  obtain ⟨-, ck, -⟩ := hct _ _ _ _ _ _ p7
  obtain ⟨⟨d1, ⟨d2, d2'⟩, d3, ⟨d4, d5⟩, d6, d7⟩, ⟨q1, q2, q3, q4, q5, q6⟩⟩ := p4.ex ck t2 t3
  have tr := p5.ex t2 t3
  have pv : PV s (cNx s) := PV.cnx s
  have hr : REFS (cNx s) := pv.refs p1.1.1
  have a1 : f_X3_enter N (cNx s) 1 (cAr s) = some ((), S) := xi_54 (o1.trans u1) e1
  obtain ⟨Q, b3, b4⟩ := xp_31 (r := rNx r) (by rw [mc.clq]; exact h21.trans u2) v1
  rw [mc.clq] at b3
  obtain ⟨f, f1, f2, f3, f4, f5, ⟨f6, f6'⟩, ⟨f7, f8, f9, f10⟩, f11, f12, f13⟩ := en_c d2 u4 a1
  have f4' : ∀ j : Nat, j ≠ 67 → S.i j = (cNx s).i j := f4
  obtain ⟨c1, c2, c3, c4, c5, c6, c7, c8, c9, c10⟩ := rc_r d2' b3
  rw [← b4] at c2 c3 c4 c5 c6 c7 c8 c9 c10
  obtain ⟨feq, tlv⟩ := en_feq (s := cNx s) (S := S) (r := rNx r) (V := V) (mu := mu) (m := ((rNx r).i 97).toInt) hr u4 f2 f3 ⟨by rw [f6], by rw [f6]⟩ f11 f12 f13 ⟨c2 85 (by decide), c2 3 (by decide)⟩ (fun j z1 z2 z3 z4 => c4 j (by omega) (by omega) (by omega) (by omega) (by omega)) (fun j i z1 z2 z3 => c5 j i (by omega))
  have S72 : S.i 72 = -1 := (f4' 72 (by decide)).trans t1.1.1.1
  have gz : gcr g = 2 := by
    rw [ug]
    rfl
  have gz' : gpo g = 1461 := by
    rw [ug]
    rfl
  have i80 : V.i 80 = r.i 80 := (c2 80 (by decide)).trans (rNx_i (by decide))
  have hv := t1.2.1
  have ca : ∀ j : Nat, j < 100 → V.a j = (rNx r).a j := fun j hj => c4 j (by omega) (by omega) (by omega) (by omega) (by omega)
  refine Or.inl ⟨m, S, V, mu, h, p + 1, q + 1, w', 0, _, x + 1, by omega, ⟨e3 S72, v3, ⟨⟨⟨⟨S72, (f4' 73 (by decide)).trans t1.1.1.2⟩, by rw [f4' 66 (by decide)]; exact t1.1.2.1, by rw [c2 92 (by decide)]; exact t1.1.2.2⟩, hv.of (f4' 65 (by decide)) (by rw [f6]) (c2 93 (by decide)) (ca 94 (by decide)), t1.2.2.1.of (f4' 69 (by decide)) (f4' 70 (by decide)) (by rw [f6]) (c2 80 (by decide)) (c2 81 (by decide)) (ca 82 (by decide)) (ca 83 (by decide)), fun k l hk => ?_⟩, ⟨⟨?_, ⟨?_, ?_⟩, ?_, ⟨?_, ?_⟩, ?_, ?_⟩, ?_⟩, ?_⟩, BTP.no (by decide), u6, ?_⟩, v2⟩
  · rw [f6, ca 84 (by decide)]
    exact t1.2.2.2 k l hk
  · refine ⟨?_, Or.inr (Or.inl ⟨rfl, c6, ⟨?_, c8⟩, ⟨f, ⟨f1, f7, ?_⟩, ?_, ?_, ?_, ?_⟩, ?_⟩)⟩
    · rw [c10]
      exact hv.1.2.1
    · rw [c7]
      show (r.a 22 q).toInt = _
      rw [h22]
      exact u8
    · show (S.o f 2).toInt = (h : Int)
      rw [f9]
      exact hv.1.1
    · show (S.o f 1).toInt = (ex : Int)
      rw [f8, o2]
      exact u7
    · rw [f10, c9, q1]
    · rw [c9]
      exact q2
    · rw [c9]
      exact q3
    · rw [c2 97 (by decide)]
      exact d1.of feq
  · show (S.i 67).toInt = ((frs c + 1 : Nat) : Int)
    rw [f5]
    omega
  · show (V.i 99).toInt = ((c.length + 1 : Nat) : Int)
    rw [c3]
    omega
  · rw [f4' 71 (by decide), hS_of (r := rNx r) (R := V) (ca 91 (by decide)) 8]
    exact d3
  · rw [c2 85 (by decide)]
    exact d4
  · rw [c2 85 (by decide), c2 80 (by decide)]
    show ((rNx r).i 85).toInt + ((tps c + 2 : Nat) : Int) ≤ 2 * ((rNx r).i 80).toInt + 0
    omega
  · unfold MUI at *
    rw [c2 85 (by decide)]
    exact d6
  · exact (c2 115 (by decide)).trans d7
  · refine ⟨by rw [f4' 68 (by decide), c2 95 (by decide)]; exact q1, by rw [c2 95 (by decide)]; exact q2, by rw [c2 95 (by decide)]; exact q3, q4, fun k hk => ?_, ⟨fun _ => ⟨?_, ?_⟩, fun z => absurd (show (1 : Nat) = 1 from rfl) z⟩⟩
    · rw [c2 95 (by decide)] at hk
      rw [f6, ca 96 (by decide)]
      exact q5 k hk
    · rw [c9, c2 95 (by decide)]
      exact Int.le_refl _
    · rw [c9]
      exact q6.of (fun k hk => c5 103 k (by omega))
  · exact tr.of (fun j hj => f4' j (by omega)) (fun k _ => by rw [f6]) ⟨fun j hj => c2 j (by omega), fun k hk => ca k (by omega)⟩
  · rw [i80, x1]
    show x.toInt + 1 + ((fps c + 1460 : Nat) : Int) + w' + 0 ≤ _
    omega
/-- one more may be open -/
theorem FRS.z1 {s : CS} {r : RS} {mu : Nat → Nat} {AL : Als} {e : Ent} {c : List Ent} {m : Int} (hk : e.k = 1) (h : FRS s r mu AL (e :: c) m) : FRS s r mu AL ((1, e.h, e.x, e.y, e.z + 1, e.w, e.u) :: c) m := by
  obtain ⟨h0, h⟩ := h
  refine ⟨h0, ?_⟩
  rcases h with ⟨k0, -⟩ | ⟨k1, h⟩ | ⟨k0, -⟩ | ⟨k0, -⟩ | ⟨k0, -⟩ | ⟨k0, -⟩
  · omega
  · exact Or.inr (Or.inl ⟨rfl, h⟩)
  · omega
  · omega
  · omega
  · omega
theorem DYN.z1 {s : CS} {r : RS} {mu : Nat → Nat} {AL : Als} {e : Ent} {c : List Ent} {n : Int} (hk : e.k = 1) (d : DY0 s r mu AL (e :: c) n) : DY0 s r mu AL ((1, e.h, e.x, e.y, e.z + 1, e.w, e.u) :: c) n := by
  obtain ⟨d1, d2, d3, ⟨d4, d5⟩, d6, d7⟩ := d
  have hf : frs ((1, e.h, e.x, e.y, e.z + 1, e.w, e.u) :: c) = frs (e :: c) := by
    rw [frs_up (e := e) (by omega)]
    rfl
  have ht : tps ((1, e.h, e.x, e.y, e.z + 1, e.w, e.u) :: c) = tps (e :: c) := by
    show tps c + 2 = tps c + (if e.k = 1 then 2 else if e.k = 2 then 1 else 0)
    rw [if_pos hk]
  exact ⟨d1.z1 hk, by rw [hf]; exact d2, d3, ⟨d4, by rw [ht]; exact d5⟩, d6, d7⟩
theorem RCO.z1 {r : RS} {e : Ent} {c : List Ent} {o o' : Int} (hk : e.k = 1) (h : RCO r (e :: c) o) (ho : o ≤ o') : RCO r ((1, e.h, e.x, e.y, e.z + 1, e.w, e.u) :: c) o' := ⟨fun _ => ⟨Int.le_trans (h.1 hk).1 ho, (h.1 hk).2⟩, fun z => absurd (show (1 : Nat) = 1 from rfl) z⟩
def UOpe (s0 : CS) (r0 : RS) (AL : Als) (p q h w : Nat) (c : List Ent) : Prop := s0.a 15 p = 55 ∧ r0.a 21 q = 32 ∧ s0.a 16 p = r0.a 22 q ∧ ∃ (u : Nat) (e : Ent) (c0 : List Ent), u + 2 ≤ w ∧ TYC s0 r0 AL u c ∧ c = e :: c0 ∧ e.k = 1 ∧ NXW AL (p + 1) (q + 1) h w 1 0 ((1, e.h, e.x, e.y, e.z + 1, e.w, e.u) :: c0)
theorem u_ope {N H n : Nat} (hN : 10000000000 ≤ N) {D : Nat → List Nat} {T : Int32 × CS} {s0 : CS} {r0 : RS} {nm : Nat → Nat → Prop} {AL : Als} {s : CS} {r : RS} {mu : Nat → Nat} {h p q w g : Nat} {c : List Ent} {x : Int32} {U : Int32 × RS} (hct : HCT nm AL) (pt : PTX N H D T s0 r0 nm AL s r mu h p q w g c x) (hq : (q : Int) < (r0.i 20).toInt) (u : UOpe s0 r0 AL p q h w c) (e : f_X12_run_122 N n r = some U) : NXTW N H D T s0 r0 nm AL n U := by
  obtain ⟨y1, y2, y3, u, a, c0, u1, u3, ec, ak, w', u5, u6⟩ := u
  obtain ⟨m, S, V, hn, ⟨e1, e2, e3, e4⟩, ⟨v1, v2, v3⟩, ⟨o1, o2⟩, oc, ⟨hp, hq3⟩, x1⟩ := pt_tick hN hct pt hq (by omega) e
  have rf := pt.2.1
  have h21 : r.a 21 q = r0.a 21 q := by rw [rf.2 21 (by decide)]
  have h22 : r.a 22 q = r0.a 22 q := by rw [rf.2 22 (by decide)]
  have mc := pt.2.2.1.1
  obtain ⟨-, ck, -, d22, hh⟩ := hct _ _ _ _ _ _ pt.2.2.2.2.1
  obtain ⟨-, -, ops', -⟩ := hct _ _ _ _ _ _ u6
  obtain ⟨t1, t2, t3⟩ := un_nx mc (by omega) (by omega)
  have dy := pt.2.2.1.2.1.ex ck t2 t3
  have tr := pt.2.2.1.2.2.ex t2 t3
  have gn := gcr_nn (g := g)
  have gn' := gpo_nn (g := g)
  have b6 := pt.2.2.2.2.2
  have a1 : f_X3_openOne N (cNx s) (cAr s) = some ((), S) := xi_55 (o1.trans y1) e1
  have ga := xp_32 (r := rNx r) (by rw [mc.clq]; exact h21.trans y2) v1
  have ex : (rNx r).a 22 (r.i 92).toNatClampNeg = cAr s := by
    rw [mc.clq, o2, y3]
    exact h22
  rw [ex] at ga
  obtain ⟨i8, ga⟩ := ga
  obtain ⟨k, hk⟩ : ∃ k : Nat, (cAr s).toInt = (k : Int) := ⟨(cAr s).toInt.toNat, by have := i8.1; omega⟩
  have k8 : k < 8 := by have := i8.2; omega
  rw [cl_nat hk] at ga
  obtain ⟨s1, s2, s3⟩ := tr.1 k k8
  have gk : ∀ f : Nat → Int32, gAt f 8 (cAr s) = f k := fun f => by
    unfold gAt
    rw [if_pos ⟨by omega, by omega⟩, cl_nat hk]
  unfold f_X3_openOne at a1
  rw [gk, gk] at a1
  have rb := (tr.2.2.2.2.2.1 k k8)
  have rl := le_int rb.1
  have ru := le_int rb.2
  have r12 := le_int tr.2.2.2.1.2
  have e12 : (12 : Int32).toInt = 12 := by decide
  have e1' : (1 : Int32).toInt = 1 := by decide
  rw [z_t0] at rl
  have e6 : (rNx r).a 6 k - 1 = (cNx s).a 11 k := by
    rw [← s2]
    exact Int32.add_sub_cancel _ _
  have i11 : ((cNx s).a 11 k).toInt = ((rNx r).a 6 k).toInt - 1 := by
    rw [← e6, toInt_sub] <;> rw [e1'] <;> omega
  rw [e6] at ga
  have fe : fps ((1, a.h, a.x, a.y, a.z + 1, a.w, a.u) :: c0) = fps c := by
    rw [ec]
    show fps c0 + 1460 = fps c0 + (if a.k = 0 then 2 else if a.k = 1 then 1460 else if a.k = 2 then 1154 else if a.k = 3 then 1152 else 0)
    rw [if_neg (by omega), if_pos ak]
  have oe : ops ((1, a.h, a.x, a.y, a.z + 1, a.w, a.u) :: c0) = ops c + 1 := by
    rw [ec]
    show ops c0 + (a.z + 1) = ops c0 + (if a.k = 1 then a.z else 0) + 1
    rw [if_pos ak]
    omega
  by_cases lt : (cNx s).a 11 k < 0
  · have l1 := lt_int lt
    rw [z_t0] at l1
    have le6 : (rNx r).a 6 k ≤ 0 := by
      rw [Int32.le_iff_toInt_le, z_t0]
      omega
    rw [if_pos lt] at a1
    rw [ec] at dy
    obtain ⟨dy0, ⟨q1, q2, q3, q4, q5, q6⟩⟩ := dy
    have dz := DYN.z1 ak dy0
    rcases ga with ⟨-, c5, P, p1, p2⟩ | ⟨-, c5, p2⟩ | ⟨c6, -⟩
    · -- it is opened
      rw [if_pos (s1.trans c5)] at a1
      obtain ⟨E, x2, x3⟩ := hf_bind a1
      obtain ⟨n1, n2, n3, ⟨n4, n5, n6, n7, n8⟩, n9, n10⟩ := t1.2.2.1.note x2 p1
      have eS : S = CS.setI (CS.putA E.2 63 (gPut (E.2.a 63) 320 (E.2.i 68) (cAr s))) 68 (E.2.i 68 + 1) := (congrArg Prod.snd (Option.some.inj x3)).symm
      have E68 : E.2.i 68 = (rNx r).i 95 := (n2 68 (by decide)).trans q1
      have P95 : P.i 95 = (rNx r).i 95 := n9 95 (by decide)
      have Si : ∀ j : Nat, j ≠ 68 → j ≠ 69 → S.i j = (cNx s).i j := fun j z1 z2 => by rw [eS, ci_ne _ _ _ z1]; exact n2 j z2
      have S68 : S.i 68 = (rNx r).i 95 + 1 := by rw [eS, ci_at, E68]
      have Sa : ∀ j : Nat, j ≠ 63 → j ≠ 64 → S.a j = (cNx s).a j := fun j z1 z2 => by
        rw [eS]
        exact (if_neg z1 : (CS.putA E.2 63 (gPut (E.2.a 63) 320 (E.2.i 68) (cAr s))).a j = E.2.a j).trans (n3 j z2)
      have S64 : S.a 64 = E.2.a 64 := by
        rw [eS]
        exact cpA_ne (by decide)
      have Sr : S.r = (cNx s).r ∧ S.w = (cNx s).w ∧ S.o = (cNx s).o ∧ S.ot = (cNx s).ot ∧ S.oa = (cNx s).oa := by
        rw [eS]
        exact ⟨n4, n5, n6, n7, n8⟩
      obtain ⟨r1, r2, r3, r4, r5⟩ := Sr
      have Vi : ∀ j : Nat, j ≠ 81 → j ≠ 95 → V.i j = (rNx r).i j := fun j z1 z2 => by
        rw [p2, ri_ne z2]
        exact n9 j z1
      have V95 : V.i 95 = (rNx r).i 95 + 1 := by rw [p2, ri_at, P95]
      have Va : ∀ j : Nat, j ≠ 82 → j ≠ 83 → j ≠ 96 → V.a j = (rNx r).a j := fun j z1 z2 z3 => by
        rw [p2]
        show (RS.setA P 96 (P.i 95).toNatClampNeg (cAr s)).a j = _
        rw [setA_nk z3, n10 j z1 z2]
      have o95 : ((rNx r).i 95 + 1).toInt = ((rNx r).i 95).toInt + 1 := ad1 q2 (by omega)
      obtain ⟨k9, hk9⟩ : ∃ k9 : Nat, ((rNx r).i 95).toInt = (k9 : Int) := ⟨((rNx r).i 95).toInt.toNat, by omega⟩
      have l320 : k9 < 320 := by
        rw [oe, ec] at ops'
        omega
      have tlv : ∀ b : Nat, TLV (cNx s) (rNx r) mu b → TLV S V mu b := fun b t => by
        unfold TLV THG inP at *
        rw [r1, r3, r5, Vi 85 (by decide) (by decide), Vi 3 (by decide) (by decide), Va 86 (by decide) (by decide) (by decide), Va 87 (by decide) (by decide) (by decide), Va 88 (by decide) (by decide) (by decide), Va 89 (by decide) (by decide) (by decide), Va 90 (by decide) (by decide) (by decide)]
        exact t
      have feq : FEQ (cNx s) S (rNx r) V mu mu ((1, a.h, a.x, a.y, a.z + 1, a.w, a.u) :: c0) ((rNx r).i 97).toInt := ⟨fun i f _ hf => ⟨by rw [r1]; exact hf, by rw [r3], by rw [r4]⟩, fun b _ t => ⟨tlv b t, rfl, by rw [Va 87 (by decide) (by decide) (by decide)]⟩, ⟨Sa 17 (by decide) (by decide), Va 21 (by decide) (by decide) (by decide), Va 23 (by decide) (by decide) (by decide), Va 31 (by decide) (by decide) (by decide), Va 32 (by decide) (by decide) (by decide)⟩, fun j k z1 z2 _ => by rw [Va j (by omega) (by omega) (by omega)], fun b _ => ⟨fun k _ => by rw [Sa 59 (by decide) (by decide)], fun l _ => by rw [Va 84 (by decide) (by decide) (by decide)]⟩, fun j _ => by rw [Va 98 (by decide) (by decide) (by decide)]⟩
      have d' := dz.of (n' := 0) feq (Si 67 (by decide) (by decide)) (Si 71 (by decide) (by decide)) (Vi 97 (by decide) (by decide)) (Vi 99 (by decide) (by decide)) (Vi 115 (by decide) (by decide)) (Va 91 (by decide) (by decide) (by decide)) (by
        have z := dz.2.2.2.2.1
        unfold MUI at *
        rw [Vi 85 (by decide) (by decide)]
        exact z) (by
        have z := dz.2.2.2.1
        rw [Vi 85 (by decide) (by decide), Vi 80 (by decide) (by decide)]
        omega)
      have S72 : S.i 72 = -1 := (Si 72 (by decide) (by decide)).trans t1.1.1.1
      have i80 : V.i 80 = r.i 80 := (Vi 80 (by decide) (by decide)).trans (rNx_i (by decide))
      refine Or.inl ⟨m, S, V, mu, h, p + 1, q + 1, w', 0, _, x + 1, by omega, ⟨e3 S72, v3, ⟨⟨⟨⟨S72, (Si 73 (by decide) (by decide)).trans t1.1.1.2⟩, by rw [Si 66 (by decide) (by decide)]; exact t1.1.2.1, by rw [Vi 92 (by decide) (by decide)]; exact t1.1.2.2⟩, t1.2.1.of (Si 65 (by decide) (by decide)) (Sa 60 (by decide) (by decide)) (Vi 93 (by decide) (by decide)) (Va 94 (by decide) (by decide) (by decide)), n1.of (by rw [eS, ci_ne _ _ _ (by decide)]; rfl) (by rw [eS, ci_ne _ _ _ (by decide)]; rfl) S64 (by rw [p2, ri_ne (by decide)]; rfl) (by rw [p2, ri_ne (by decide)]; rfl) (by rw [p2]; exact setA_nk (s := P) (by decide)) (by rw [p2]; exact setA_nk (s := P) (by decide)), fun k l hk => ?_⟩, ⟨d', ?_⟩, ?_⟩, BTP.no (by decide), u6, ?_⟩, v2⟩
      · rw [Sa 59 (by decide) (by decide), Va 84 (by decide) (by decide) (by decide)]
        exact t1.2.2.2 k l hk
      · refine ⟨by rw [S68, V95], by rw [V95, o95]; omega, ?_, ops', fun k' hk' => ?_, ?_⟩
        · rw [V95, o95, oe, ec]
          omega
        · rw [V95, o95] at hk'
          have g63 : S.a 63 k' = if k' = k9 then cAr s else (cNx s).a 63 k' := by
            rw [eS]
            show gPut (E.2.a 63) 320 (E.2.i 68) (cAr s) k' = _
            unfold gPut
            rw [E68, if_pos ⟨by omega, by omega⟩, cl_nat hk9, n3 63 (by decide)]
            rfl
          have g96 : V.a 96 k' = if k' = k9 then cAr s else (rNx r).a 96 k' := by
            rw [p2]
            show (RS.setA P 96 (P.i 95).toNatClampNeg (cAr s)).a 96 k' = _
            rw [P95, cl_nat hk9]
            by_cases z : k' = k9
            · rw [z, setA_at, if_pos rfl]
            · rw [setA_ne z, if_neg z, n10 96 (by decide) (by decide)]
          rw [g63, g96]
          by_cases z : k' = k9
          · rw [if_pos z, if_pos z]
          · rw [if_neg z, if_neg z]
            exact q5 k' (by omega)
        · rw [V95, o95]
          exact (q6.of (fun k _ => by rw [Va 103 (by decide) (by decide) (by decide)])).z1 ak (by omega)
      · exact tr.of (fun j hj => Si j (by omega) (by omega)) (fun k hk => Sa k (by omega) (by omega)) ⟨fun j hj => Vi j (by omega) (by omega), fun k hk => Va k (by omega) (by omega) (by omega)⟩
      · rw [i80, x1, fe]
        show x.toInt + 1 + (fps c : Int) + w' + 0 ≤ _
        omega
    · -- there is none
      rw [if_neg (by rw [s1]; exact c5)] at a1
      have eS : S = cNx s := (congrArg Prod.snd (Option.some.inj a1)).symm
      rw [eS] at e3
      refine Or.inl ⟨m, cNx s, rNx r, mu, h, p + 1, q + 1, w', 0, _, x + 1, by omega, ⟨e3 t1.1.1.1, rf.tr t3.rfx, ⟨t1, ⟨?_, ⟨q1, q2, ?_, ops', q5, q6.z1 ak (Int.le_refl _)⟩⟩, tr⟩, BTP.no (by decide), u6, ?_⟩, by rw [← p2]; exact v2⟩
      · obtain ⟨z1, z2, z3, ⟨z4, z5⟩, z6, z7⟩ := dz
        refine ⟨z1, z2, z3, ⟨z4, ?_⟩, z6, z7⟩
        have : -(gcr 0) = 0 := rfl
        rw [this]
        omega
      · rw [oe, ec]
        omega
      · rw [rNx_i (by decide), x1, fe]
        show x.toInt + 1 + (fps c : Int) + w' + 0 ≤ _
        omega
    · exact absurd le6 c6
  · -- one is thrown
    have l1 : 0 ≤ ((cNx s).a 11 k).toInt := by
      have := le_int (Int32.not_lt.mp lt)
      rw [z_t0] at this
      exact this
    have nle : ¬ (rNx r).a 6 k ≤ 0 := fun z => by
      have := le_int z
      rw [z_t0] at this
      omega
    rw [if_neg lt] at a1
    obtain ⟨E, x2, x3⟩ := hf_bind a1
    have eS : S = E.2 := (congrArg Prod.snd (Option.some.inj x3)).symm
    rcases ga with ⟨z, -⟩ | ⟨z, -⟩ | ⟨-, P, p1, p2⟩
    · exact absurd z nle
    · exact absurd z nle
    · have pv : PV s (cNx s) := PV.cnx s
      obtain ⟨nu, l, lr, l80, l72⟩ := lvr_ra (u := u) (by omega) (pv.refs pt.1.1.1) (pv.room pt.1.1.2.1) d22 t1 dy (by omega) tr l1 (by omega) x2 p1
      rw [← eS] at l l72
      exact lv_unit hN hct pt (by omega) v2 v3 (e3 l72) (rf.tr (t3.rfx.tr lr)) (l80.trans (rNx_i (by decide))) ⟨ck, d22, hh⟩ u3 l (by omega) p2
