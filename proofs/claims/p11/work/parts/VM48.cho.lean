/-! both machines: a switch of either sort -/
/-- the rows of the class, the chain of the reference: the same choice -/
def CHO (s0 : CS) (r0 : RS) (AL : Als) (q h w d n : Nat) (L : List Nat) (c : List Ent) : Prop := (∀ i : Nat, i < n → ∃ k ∈ L, r0.a 28 k = 0 ∧ r0.a 25 k = s0.a 16 (d + 2 * i)) ∧ (∀ k ∈ L, r0.a 28 k = 0 → ∃ i : Nat, i < n ∧ s0.a 16 (d + 2 * i) = r0.a 25 k) ∧ (∀ k ∈ L, r0.a 28 k = 0 → ∀ i : Nat, i < n → s0.a 16 (d + 2 * i) = r0.a 25 k → JX s0 AL (s0.a 16 (d + 2 * i + 1)) (r0.a 26 k) h w (2 * n + 3) 0 c) ∧ (∀ k ∈ L, ¬ r0.a 28 k = 0 → JX s0 AL (s0.a 16 (d + 2 * n + 1)) (r0.a 26 k) h w (2 * n + 3) 0 c)
def UCho (s0 : CS) (r0 : RS) (AL : Als) (p q h w : Nat) (c : List Ent) : Prop := s0.a 15 p = 30 ∧ ∃ (d n h' : Nat) (L : List Nat), (cTg s0 (s0.a 16 p)).toInt = (d : Int) ∧ DSP s0 d n ∧ (h = h' + 1 ∧ h' + 2 ≤ 600) ∧ CHL r0 L (r0.a 22 q) ∧ 2 * n + 3 ≤ w ∧ ((r0.a 21 q = 28 ∧ CHO s0 r0 AL q h' w d n L c ∧ ((∀ k ∈ L, r0.a 28 k = 0) → JX s0 AL (s0.a 16 (d + 2 * n + 1)) (r0.a 23 q) h' w (2 * n + 3) 0 c)) ∨ (r0.a 21 q = 29 ∧ CHO s0 r0 AL q h' w d n L ((5, h', q, 0, 0, 0, 0) :: c)))
theorem u_cho {N H n : Nat} (hN : 10000000000 ≤ N) {D : Nat → List Nat} {T : Int32 × CS} {s0 : CS} {r0 : RS} {nm : Nat → Nat → Prop} {AL : Als} {s : CS} {r : RS} {mu : Nat → Nat} {h p q w g : Nat} {c : List Ent} {x : Int32} {U : Int32 × RS} (hct : HCT nm AL) (pt : PTX N H D T s0 r0 nm AL s r mu h p q w g c x) (hq : (q : Int) < (r0.i 20).toInt) (u : UCho s0 r0 AL p q h w c) (e : f_X12_run_122 N n r = some U) : NXTW N H D T s0 r0 nm AL n U := by
  obtain ⟨y1, d, nn, h', L, y2, y3, ⟨y4, y5⟩, y6, y7, y8⟩ := u
  obtain ⟨m, S, V, hn, ⟨e1, e2, e3, e4⟩, ⟨v1, v2, v3⟩, ⟨o1, o2⟩, oc, ⟨hp, hq3⟩, x1⟩ := pt_tick hN hct pt hq (by omega) e
  obtain ⟨bx, x0⟩ := bud_x pt
  have rf := pt.2.1
  have h21 : r.a 21 q = r0.a 21 q := by rw [rf.2 21 (by decide)]
  have h22 : r.a 22 q = r0.a 22 q := by rw [rf.2 22 (by decide)]
  have mc := pt.2.2.1.1
  rw [y4] at mc
  obtain ⟨-, ck, -⟩ := hct _ _ _ _ _ _ pt.2.2.2.2.1
  have gn := gcr_nn (g := g)
  have gn' := gpo_nn (g := g)
  have b6 := pt.2.2.2.2.2
  have hv := mc.2.1
  have eS : S = CS.setI (cNx s) 66 (cTg s (cAr s)) := xi_30 (o1.trans y1) e1
  have ES : E65 s S (h' + 1) := by
    rw [eS]
    exact e65_nx.tr e65_66
  have S72 : S.i 72 = -1 := (ES.1 72 (by decide) (by decide)).trans mc.1.1.1
  have S73 : S.i 73 = 0 := (ES.1 73 (by decide) (by decide)).trans mc.1.1.2
  have S66 : (S.i 66).toInt = ((d + 2 * 0 : Nat) : Int) := by
    rw [eS, ci_at, oc, o2, y2]
    omega
  have S65 : (S.i 65).toInt = ((h' + 1 : Nat) : Int) := by
    rw [eS, ci_ne _ _ _ (by decide), cNx_i (by decide)]
    exact hv.1.1
  obtain ⟨S2, x', q1, q2, q3, q4, q5⟩ := dsp_c hN (v := S.a 60 h') y3 y5 nn 0 S (x + 1) (by omega) (e3 S72) S72 S73 S66 S65 rfl (by omega)
  have E2 : E65 s S2 h' := (ES.dn (by omega)).tr q3
  obtain ⟨t1, t2, t3, t4⟩ := un_tak mc (by omega) (by omega)
  have tp : rTp (rNx r) = cTp s := t4.symm
  have ct : cTp s = S.a 60 h' := by
    rw [cTp_at (h := h') (by rw [hv.1.1]; omega) (by omega), ES.2.2.1 h' (by omega)]
  rw [ct] at tp
  have c65 : S2.i 65 = (cPo (cNx s)).i 65 := Int32.toInt_inj.mp (by rw [q4, t1.2.1.1.1])
  have Ai : ∀ j : Nat, j ≠ 66 → S2.i j = (cPo (cNx s)).i j := fun j b => by
    by_cases z : j = 65
    · rw [z]
      exact c65
    · rw [E2.1 j z b, cPo_i z, cNx_i b]
  have T72 : S2.i 72 = -1 := (E2.1 72 (by decide) (by decide)).trans mc.1.1.1
  -- the reference's entries
  have rr : ∀ (Q : Int32 × RS), f_X12_caseOf N (rPo (rNx r)) (r0.a 22 q) (S.a 60 h') = some Q → Q.2 = rPo (rNx r) ∧ ((∃ j ∈ L, r0.a 28 j = 0 ∧ r0.a 25 j = S.a 60 h' ∧ Q.1.toInt = (j : Int)) ∨ ((∀ j ∈ L, r0.a 28 j = 0 → ¬ r0.a 25 j = S.a 60 h') ∧ ((∃ j ∈ L, ¬ r0.a 28 j = 0 ∧ Q.1.toInt = (j : Int)) ∨ ((∀ j ∈ L, r0.a 28 j = 0) ∧ Q.1 = -1)))) := fun Q gQ => by
    have e25 : (rPo (rNx r)).a 25 = r0.a 25 := rf.2 25 (by decide)
    have e27 : (rPo (rNx r)).a 27 = r0.a 27 := rf.2 27 (by decide)
    have e28 : (rPo (rNx r)).a 28 = r0.a 28 := rf.2 28 (by decide)
    have z := cas_r (N := N) (r := rPo (rNx r)) (v := S.a 60 h') L N (-1) (r0.a 22 q) Q (y6.of e27) gQ
    rw [e25, e28] at z
    exact z
  have e26 : (rPo (rNx r)).a 26 = r0.a 26 := rf.2 26 (by decide)
  have e23 : (rPo (rNx r)).a 23 = r0.a 23 := rf.2 23 (by decide)
  -- both come to the same place
  have both : ∀ (c' : List Ent) (Q : Int32 × RS), CHO s0 r0 AL q h' w d nn L c' → f_X12_caseOf N (rPo (rNx r)) (r0.a 22 q) (S.a 60 h') = some Q → Q.2 = rPo (rNx r) ∧ ((∃ (k p' q' w' : Nat), Q.1.toInt = (k : Int) ∧ (r0.a 26 k).toInt = (q' : Int) ∧ (S2.i 66).toInt = (p' : Int) ∧ w' + (2 * nn + 3) ≤ w ∧ AL p' q' h' w' 0 c') ∨ ((∀ j ∈ L, r0.a 28 j = 0) ∧ Q.1 = -1 ∧ S2.i 66 = cTg s0 (s0.a 16 (d + 2 * nn + 1)))) := fun c' Q ⟨k1, k2, k3, k4⟩ gQ => by
    obtain ⟨z1, z2⟩ := rr Q gQ
    refine ⟨z1, ?_⟩
    rcases z2 with ⟨j, j1, j2, j3, j4⟩ | ⟨z2, z3⟩
    · left
      rcases q5 with ⟨i, i1, i2, i3⟩ | ⟨i1, -⟩
      · obtain ⟨p', q', w', ⟨a1, a2⟩, a3, a4⟩ := k3 j j1 j2 i i1 (by rw [i2, j3])
        exact ⟨j, p', q', w', j4, a2, by rw [i3]; exact a1, a3, a4⟩
      · obtain ⟨i, i2, i3⟩ := k2 j j1 j2
        exact absurd (i3.trans j3) (i1 i (Nat.zero_le _) i2)
    · rcases q5 with ⟨i, i1, i2, i3⟩ | ⟨i1, i2⟩
      · obtain ⟨k, k5, k6, k7⟩ := k1 i i1
        exact absurd (k7.trans i2) (z2 k k5 k6)
      · rcases z3 with ⟨j, j1, j2, j3⟩ | ⟨z4, z5⟩
        · obtain ⟨p', q', w', ⟨a1, a2⟩, a3, a4⟩ := k4 j j1 j2
          exact Or.inl ⟨j, p', q', w', j3, a2, by rw [i2]; exact a1, a3, a4⟩
        · exact Or.inr ⟨z4, z5, i2⟩
  have mcS : ∀ pp : Nat, (S2.i 66).toInt = (pp : Int) → MCO nm S2 (rPo (rNx r)) h' pp (q + 1) ∧ EXC nm (cPo (cNx s)) S2 := fun pp h66 => un_pc t1 Ai (fun k b => E2.2.1 k b) (fun k b => E2.2.2.1 k b) E2.2.2.2 h66
  rcases y8 with ⟨g0, ch, ch0⟩ | ⟨g0, ch⟩
  · obtain ⟨Q, a1, a2⟩ := xp_28 (r := rNx r) (by rw [mc.clq]; exact h21.trans g0) v1
    rw [mc.clq, tp] at a1
    rw [mc.clq] at a2
    have a1' : f_X12_caseOf N (rPo (rNx r)) (r0.a 22 q) (S.a 60 h') = some Q := by
      rw [← h22]
      exact a1
    obtain ⟨z1, z2⟩ := both c Q ch a1'
    rcases z2 with ⟨k, p', q', w', k1, k2, k3, k4, k5⟩ | ⟨z2, z3, z4⟩
    · rcases a2 with ⟨-, a2⟩ | ⟨a2, -⟩
      · rw [z1, cl_nat k1, e26] at a2
        obtain ⟨m1, m2⟩ := mcS p' k3
        obtain ⟨n1, n2⟩ := un_toR (y := r0.a 26 k) (q' := q') m1 k2
        rw [← a2] at n1 n2
        exact pl_fink (k := 2 * nn + 3) hct pt (by omega) (by omega) q1 v3 v2 n1 (t2.tr m2) (t3.tr n2) k5 (by omega) (by decide) (BTP.no (by decide))
      · exact absurd (by rw [Int32.le_iff_toInt_le, z_t0]; omega) a2
    · obtain ⟨p', q', w', ⟨k1, k2⟩, k3, k4⟩ := ch0 z2
      rcases a2 with ⟨a2, -⟩ | ⟨-, a2⟩
      · rw [z3] at a2
        exact absurd a2 (by decide)
      · rw [z1, e23] at a2
        obtain ⟨m1, m2⟩ := mcS p' (by rw [z4]; exact k1)
        obtain ⟨n1, n2⟩ := un_toR (y := r0.a 23 q) (q' := q') m1 k2
        rw [← a2] at n1 n2
        exact pl_fink (k := 2 * nn + 3) hct pt (by omega) (by omega) q1 v3 v2 n1 (t2.tr m2) (t3.tr n2) k4 (by omega) (by decide) (BTP.no (by decide))
  · obtain ⟨Q, P, a1, a2, a3, a4⟩ := xp_29 (r := rNx r) (by rw [mc.clq]; exact h21.trans g0) v1
    rw [mc.clq, tp] at a1
    have a1' : f_X12_caseOf N (rPo (rNx r)) (r0.a 22 q) (S.a 60 h') = some Q := by
      rw [← h22]
      exact a1
    obtain ⟨z1, z2⟩ := both ((5, h', q, 0, 0, 0, 0) :: c) Q ch a1'
    rcases z2 with ⟨k, p', q', w', k1, k2, k3, k4, k5⟩ | ⟨z2, z3, z4⟩
    · rw [z1] at a2
      rw [cl_nat k1] at a4
      obtain ⟨m1, m2⟩ := mcS p' k3
      have ec := t2.tr m2
      have dy := pt.2.2.1.2.1.ex ck ec t3
      have tr := pt.2.2.1.2.2.ex ec t3
      obtain ⟨⟨d1, ⟨d2, d2'⟩, d3, ⟨d4, d5⟩, d6, d7⟩, ⟨u1, u2, u3, u4, u5, u6⟩⟩ := dy
      obtain ⟨c1, c2, c3, c4, c5, c6, c7, c8, c9, c10⟩ := rc_r d2' a2
      have Vi : ∀ j : Nat, j ≠ 92 → j ≠ 99 → V.i j = (rPo (rNx r)).i j := fun j b f => by rw [a4, ri_ne b, c2 j f]
      have Va : ∀ j : Nat, V.a j = P.2.a j := fun j => by
        rw [a4]
        rfl
      have Vl : ∀ j : Nat, j < 100 → V.a j = (rPo (rNx r)).a j := fun j hj => by rw [Va, c4 j (by omega) (by omega) (by omega) (by omega) (by omega)]
      have V92 : (V.i 92).toInt = (q' : Int) := by
        rw [a4, ri_at, c4 26 (by decide) (by decide) (by decide) (by decide) (by decide), e26]
        exact k2
      have V99 : (V.i 99).toInt = (c.length : Int) + 1 := by
        rw [a4, ri_ne (by decide)]
        exact c3
      have v80 : V.i 80 = r.i 80 := by rw [Vi 80 (by decide) (by decide), rPo_i (by decide), rNx_i (by decide)]
      have tlv : ∀ b' : Nat, TLV S2 (rPo (rNx r)) mu b' → TLV S2 V mu b' := fun b' t => by
        unfold TLV THG at *
        rw [Vi 85 (by decide) (by decide), Vi 3 (by decide) (by decide), Vl 86 (by decide), Vl 87 (by decide), Vl 88 (by decide), Vl 89 (by decide), Vl 90 (by decide)]
        exact t
      have feq : FEQ S2 S2 (rPo (rNx r)) V mu mu c ((rPo (rNx r)).i 97).toInt := ⟨fun i f _ hf => ⟨hf, rfl, rfl⟩, fun b' _ t => ⟨tlv b' t, rfl, by rw [Vl 87 (by decide)]⟩, ⟨rfl, Vl 21 (by decide), Vl 23 (by decide), Vl 31 (by decide), Vl 32 (by decide)⟩, fun j i _ _ z => by rw [Va, c5 j i (by omega)], fun a _ => ⟨fun _ _ => rfl, fun l _ => by rw [Vl 84 (by decide)]⟩, fun j _ => by rw [Vl 98 (by decide)]⟩
      refine Or.inl ⟨m, S2, V, mu, h', p', q', w', 0, _, x', by omega, ⟨q1, v3, ⟨⟨⟨m1.1.1, m1.1.2.1, V92⟩, m1.2.1.of rfl rfl (Vi 93 (by decide) (by decide)) (Vl 94 (by decide)), m1.2.2.1.of rfl rfl rfl (Vi 80 (by decide) (by decide)) (Vi 81 (by decide) (by decide)) (Vl 82 (by decide)) (Vl 83 (by decide)), fun k l hk => by rw [Vl 84 (by decide)]; exact m1.2.2.2 k l hk⟩, ⟨⟨?_, ⟨?_, ?_⟩, ?_, ⟨?_, ?_⟩, ?_, ?_⟩, ?_⟩, ?_⟩, BTP.no (by decide), k5, ?_⟩, v2⟩
      · refine ⟨?_, Or.inr (Or.inr (Or.inr (Or.inr (Or.inr ⟨rfl, by rw [Va]; exact c6, ?_, ?_⟩))))⟩
        · rw [Va, c10]
          exact m1.2.1.1.2.1
        · rw [Va, c7]
          exact mc.1.2.2
        · rw [Vi 97 (by decide) (by decide)]
          exact d1.of feq
      · rw [d2]
        exact congrArg Nat.cast (frs_eq (e := ((5, h', q, 0, 0, 0, 0) : Ent)) (c := c) (show 3 < 5 by decide)).symm
      · show (V.i 99).toInt = ((c.length + 1 : Nat) : Int)
        rw [V99]
        omega
      · exact d3.trans (hS_of (r := rPo (rNx r)) (R := V) (Vl 91 (by decide)) 8).symm
      · rw [Vi 85 (by decide) (by decide)]
        exact d4
      · rw [Vi 85 (by decide) (by decide), Vi 80 (by decide) (by decide)]
        show ((rPo (rNx r)).i 85).toInt + (tps c : Int) ≤ 2 * ((rPo (rNx r)).i 80).toInt + 0
        omega
      · unfold MUI at *
        rw [Vi 85 (by decide) (by decide)]
        exact d6
      · exact (Vi 115 (by decide) (by decide)).trans d7
      · refine ⟨by rw [Vi 95 (by decide) (by decide)]; exact u1, by rw [Vi 95 (by decide) (by decide)]; exact u2, by rw [Vi 95 (by decide) (by decide)]; exact u3, u4, fun k hk => ?_, by rw [Vi 95 (by decide) (by decide)]; exact ⟨fun z => absurd (show (5 : Nat) = 1 from z) (by decide), fun _ => u6.of (fun k hk => by rw [Va, c5 103 k (by omega)])⟩⟩
        rw [Vi 95 (by decide) (by decide)] at hk
        rw [Vl 96 (by decide)]
        exact u5 k hk
      · exact tr.of (fun _ _ => rfl) (fun _ _ => rfl) ⟨fun j hj => Vi j (by omega) (by omega), fun k hk => Vl k (by omega)⟩
      · rw [v80]
        show x'.toInt + (fps c : Int) + w' + 0 ≤ _
        omega
    · rw [z3] at a3
      exact absurd a3 (by decide)
