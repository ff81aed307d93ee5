/-! both machines: more units -/
theorem un_pc {nm : Nat → Nat → Prop} {A S : CS} {R : RS} {h p p' q : Nat} (m : MCO nm A R h p q) (ei : ∀ j : Nat, j ≠ 66 → S.i j = A.i j) (ea : ∀ k : Nat, k ≠ 60 → S.a k = A.a k) (e60 : ∀ k : Nat, k < h → S.a 60 k = A.a 60 k) (er : S.r = A.r ∧ S.w = A.w ∧ S.o = A.o ∧ S.ot = A.ot ∧ S.oa = A.oa) (h66 : (S.i 66).toInt = (p' : Int)) : MCO nm S R h p' q ∧ EXC nm A S := by
  obtain ⟨⟨⟨m1, m2⟩, m3, m4⟩, ⟨⟨m5, m6, m7⟩, m8⟩, m9, m10⟩ := m
  refine ⟨⟨⟨⟨(ei 72 (by decide)).trans m1, (ei 73 (by decide)).trans m2⟩, h66, m4⟩, ⟨⟨by rw [ei 65 (by decide)]; exact m5, m6, m7⟩, fun k hk => (e60 k hk).trans (m8 k hk)⟩, m9.of (ei 69 (by decide)) (ei 70 (by decide)) (ea 64 (by decide)) rfl rfl rfl rfl, fun k l hk => by rw [ea 59 (by decide)]; exact m10 k l hk⟩, ⟨fun j _ h2 _ _ => ei j h2, fun k _ h2 _ => ea k h2, er, fun k _ => by rw [ea 59 (by decide)]⟩⟩
theorem cTp_at {s : CS} {h : Nat} (e : (s.i 65).toInt = (h : Int) + 1) (h6 : h < 600) : cTp s = s.a 60 h := by
  unfold cTp gAt
  have z := sub_n1 e
  rw [if_pos ⟨by omega, by omega⟩, cl_nat z]
theorem cPu_top {s : CS} {h : Nat} {v : Int32} (e : (s.i 65).toInt = (h : Int)) (h6 : h < 600) : (cPu s v).a 60 h = v := by
  show gPut (s.a 60) 600 (s.i 65) v h = v
  unfold gPut
  rw [if_pos ⟨by omega, by omega⟩, cl_nat e]
  exact if_pos rfl
/-- NEGATE, NOT -/
def UNeg (s0 : CS) (r0 : RS) (AL : Als) (p q h w g : Nat) (c : List Ent) : Prop := ((s0.a 15 p = 4 ∧ r0.a 21 q = 7) ∨ (s0.a 15 p = 5 ∧ r0.a 21 q = 10)) ∧ (∃ h' : Nat, h = h' + 1) ∧ ∃ g' : Nat, NXW AL (p + 1) (q + 1) h w 1 g' c ∧ (g' = 0 ∨ (g' = 2 ∧ g = 2 ∧ s0.a 15 p = 5))
theorem u_neg {N H n : Nat} (hN : 10000000000 ≤ N) {D : Nat → List Nat} {T : Int32 × CS} {s0 : CS} {r0 : RS} {nm : Nat → Nat → Prop} {AL : Als} {s : CS} {r : RS} {mu : Nat → Nat} {h p q w g : Nat} {c : List Ent} {x : Int32} {U : Int32 × RS} (hct : HCT nm AL) (pt : PTX N H D T s0 r0 nm AL s r mu h p q w g c x) (hq : (q : Int) < (r0.i 20).toInt) (u : UNeg s0 r0 AL p q h w g c) (e : f_X12_run_122 N n r = some U) : NXTW N H D T s0 r0 nm AL n U := by
  obtain ⟨u1, ⟨h', eh⟩, g', ⟨w', u5, u6⟩, u7⟩ := u
  obtain ⟨m, S, V, hn, ⟨e1, e2, e3, e4⟩, ⟨v1, v2, v3⟩, ⟨o1, o2⟩, oc, ⟨hp, hq3⟩, x1⟩ := pt_tick hN hct pt hq (by omega) e
  have rf := pt.2.1
  have h21 : r.a 21 q = r0.a 21 q := by rw [rf.2 21 (by decide)]
  have mc := pt.2.2.1.1
  rw [eh] at mc u6
  obtain ⟨m1, m2, m3⟩ := un_neg mc (by omega) (by omega) (by rw [o1, h21]; exact u1) e1 v1
  refine pl_fin hct pt hn x1 e3 v3 v2 m1 m2 m3 u6 u5 (by rcases u7 with z | ⟨z, -⟩ <;> omega) (fun z => ⟨h', rfl, ?_, fun y => by rcases u7 with z' | ⟨z', -⟩ <;> omega, fun y => by rcases u7 with z' | ⟨z', -⟩ <;> omega⟩)
  rcases u7 with y | ⟨-, y1, y2⟩
  · omega
  · have eS : S = cPu (cPo (cNx s)) (1 - cTp s) := xi_5 (o1.trans y2) e1
    obtain ⟨k, ek, hk, -, -⟩ := pt.2.2.2.1 (by omega)
    have hv := mc.2.1.1
    have e65 : (s.i 65).toInt = (h' : Int) + 1 := by
      rw [hv.1]
      omega
    have q65 : ((cPo (cNx s)).i 65).toInt = (h' : Int) := by
      show ((CS.setI (cNx s) 65 ((cNx s).i 65 - 1)).i 65).toInt = _
      rw [ci_at]
      exact sub_n1 (by rw [cNx_i (by decide)]; exact e65)
    have kh : k = h' := by omega
    rw [kh] at hk
    rw [eS, cPu_top q65 (by omega), cTp_at e65 (by omega)]
    rcases hk with hk | hk <;> rw [hk]
    · exact Or.inr (by decide)
    · exact Or.inl (by decide)
/-- arithmetic but for / and %, comparisons -/
def UAri (s0 : CS) (r0 : RS) (AL : Als) (p q h w : Nat) (c : List Ent) : Prop := ((s0.a 15 p = 7 ∧ r0.a 21 q = 8 ∧ r0.a 22 q = 43) ∨ (s0.a 15 p = 8 ∧ r0.a 21 q = 8 ∧ r0.a 22 q = 45) ∨ (s0.a 15 p = 9 ∧ r0.a 21 q = 8 ∧ r0.a 22 q = 42) ∨ (s0.a 15 p = 12 ∧ r0.a 21 q = 9 ∧ r0.a 22 q = 60) ∨ (s0.a 15 p = 13 ∧ r0.a 21 q = 9 ∧ r0.a 22 q = 300) ∨ (s0.a 15 p = 14 ∧ r0.a 21 q = 9 ∧ r0.a 22 q = 62) ∨ (s0.a 15 p = 15 ∧ r0.a 21 q = 9 ∧ r0.a 22 q = 301) ∨ (s0.a 15 p = 16 ∧ r0.a 21 q = 9 ∧ r0.a 22 q = 302) ∨ (s0.a 15 p = 17 ∧ r0.a 21 q = 9 ∧ r0.a 22 q = 303)) ∧ ∃ h' g' : Nat, h = h' + 1 + 1 ∧ NXW AL (p + 1) (q + 1) (h' + 1) w 1 g' c ∧ (g' = 0 ∨ (g' = 2 ∧ 12 ≤ (s0.a 15 p).toInt))
theorem cmp_01 {P : Prop} [Decidable P] {v : Int32} (h : v = if P then 0 else 1) : v = 0 ∨ v = 1 := by
  by_cases z : P
  · rw [if_pos z] at h
    exact Or.inl h
  · rw [if_neg z] at h
    exact Or.inr h
theorem cmp_10 {P : Prop} [Decidable P] {v : Int32} (h : v = if P then 1 else 0) : v = 0 ∨ v = 1 := by
  by_cases z : P
  · rw [if_pos z] at h
    exact Or.inr h
  · rw [if_neg z] at h
    exact Or.inl h
theorem u_ari {N H n : Nat} (hN : 10000000000 ≤ N) {D : Nat → List Nat} {T : Int32 × CS} {s0 : CS} {r0 : RS} {nm : Nat → Nat → Prop} {AL : Als} {s : CS} {r : RS} {mu : Nat → Nat} {h p q w g : Nat} {c : List Ent} {x : Int32} {U : Int32 × RS} (hct : HCT nm AL) (pt : PTX N H D T s0 r0 nm AL s r mu h p q w g c x) (hq : (q : Int) < (r0.i 20).toInt) (u : UAri s0 r0 AL p q h w c) (e : f_X12_run_122 N n r = some U) : NXTW N H D T s0 r0 nm AL n U := by
  obtain ⟨u1, h', g', eh, ⟨w', u5, u6⟩, u7⟩ := u
  obtain ⟨m, S, V, hn, ⟨e1, e2, e3, e4⟩, ⟨v1, v2, v3⟩, ⟨o1, o2⟩, oc, ⟨hp, hq3⟩, x1⟩ := pt_tick hN hct pt hq (by omega) e
  have rf := pt.2.1
  have h21 : r.a 21 q = r0.a 21 q := by rw [rf.2 21 (by decide)]
  have h22 : r.a 22 q = r0.a 22 q := by rw [rf.2 22 (by decide)]
  have mc := pt.2.2.1.1
  rw [eh] at mc
  obtain ⟨m1, m2, m3⟩ := un_ari mc (by omega) (by omega) (by rw [o1, h21, h22]; exact u1) e1 v1
  refine pl_fin hct pt hn x1 e3 v3 v2 m1 m2 m3 u6 u5 (by rcases u7 with z | ⟨z, -⟩ <;> omega) (fun z => ⟨h', rfl, ?_, fun y => by rcases u7 with z' | ⟨z', -⟩ <;> omega, fun y => by rcases u7 with z' | ⟨z', -⟩ <;> omega⟩)
  rcases u7 with y | ⟨-, y⟩
  · omega
  · have hv := mc.2.1.1
    have e65 : (s.i 65).toInt = (h' : Int) + 1 + 1 := by
      rw [hv.1]
      omega
    have a65 : ((cPo (cNx s)).i 65).toInt = (h' : Int) + 1 := by
      show ((CS.setI (cNx s) 65 ((cNx s).i 65 - 1)).i 65).toInt = _
      rw [ci_at]
      exact sub_n1 (c := h' + 1) (by rw [cNx_i (by decide), e65]; omega)
    have b65 : ((cPo (cPo (cNx s))).i 65).toInt = (h' : Int) := by
      show ((CS.setI (cPo (cNx s)) 65 ((cPo (cNx s)).i 65 - 1)).i 65).toInt = _
      rw [ci_at]
      exact sub_n1 a65
    have top : ∀ v : Int32, S = cPu (cPo (cPo (cNx s))) v → S.a 60 h' = v := fun v ev => by
      rw [ev]
      exact cPu_top b65 (by omega)
    rcases u1 with ⟨z1, -⟩ | ⟨z1, -⟩ | ⟨z1, -⟩ | ⟨z1, -⟩ | ⟨z1, -⟩ | ⟨z1, -⟩ | ⟨z1, -⟩ | ⟨z1, -⟩ | ⟨z1, -⟩
    · rw [z1] at y
      exact absurd y (by decide)
    · rw [z1] at y
      exact absurd y (by decide)
    · rw [z1] at y
      exact absurd y (by decide)
    · exact cmp_01 (top _ (xi_12 (o1.trans z1) e1))
    · exact cmp_01 (top _ (xi_13 (o1.trans z1) e1))
    · exact cmp_01 (top _ (xi_14 (o1.trans z1) e1))
    · exact cmp_01 (top _ (xi_15 (o1.trans z1) e1))
    · exact cmp_10 (top _ (xi_16 (o1.trans z1) e1))
    · exact cmp_01 (top _ (xi_17 (o1.trans z1) e1))
/-- a caught one's number -/
theorem FRS.cat {s : CS} {r : RS} {mu : Nat → Nat} {AL : Als} : ∀ {c : List Ent} {m : Int}, FRS s r mu AL c m → ∀ e ∈ c, e.k = 2 → ∃ b : Nat, (r.a 84 e.w).toInt = (mu b : Int) ∧ s.a 59 e.z = r.a 87 (mu b) ∧ TLV s r mu b
  | [], _, _, e, he, _ => by cases he
  | a :: c, m, ⟨_, h⟩, e, he, hk => by
    rcases List.mem_cons.mp he with z | z
    · rw [z] at hk ⊢
      rcases h with ⟨k0, -⟩ | ⟨k0, -⟩ | ⟨k2, a1, a2, ⟨f, b, a3, a4, a5, a6, a7, a8⟩, a9⟩ | ⟨k0, -⟩ | ⟨k0, -⟩ | ⟨k0, -⟩
      · omega
      · omega
      · exact ⟨b, a7, a8, a6⟩
      · omega
      · omega
      · omega
    · rcases h with ⟨-, -, -, h⟩ | ⟨-, -, -, -, h⟩ | ⟨-, -, -, -, h⟩ | ⟨-, -, -, -, h⟩ | ⟨-, -, m0, -, h⟩ | ⟨-, -, -, h⟩
      · exact FRS.cat h e z hk
      · exact FRS.cat h e z hk
      · exact FRS.cat h e z hk
      · exact FRS.cat h e z hk
      · exact FRS.cat h e z hk
      · exact FRS.cat h e z hk
def UCau (s0 : CS) (r0 : RS) (AL : Als) (p q h w : Nat) (c : List Ent) : Prop := s0.a 15 p = 1 ∧ r0.a 21 q = 4 ∧ (∃ e ∈ c, e.k = 2 ∧ (s0.a 16 p).toInt = (e.z : Int) ∧ (r0.a 22 q).toInt = (e.w : Int)) ∧ h < 600 ∧ NXW AL (p + 1) (q + 1) (h + 1) w 1 0 c
theorem u_cau {N H n : Nat} (hN : 10000000000 ≤ N) {D : Nat → List Nat} {T : Int32 × CS} {s0 : CS} {r0 : RS} {nm : Nat → Nat → Prop} {AL : Als} {s : CS} {r : RS} {mu : Nat → Nat} {h p q w g : Nat} {c : List Ent} {x : Int32} {U : Int32 × RS} (hct : HCT nm AL) (pt : PTX N H D T s0 r0 nm AL s r mu h p q w g c x) (hq : (q : Int) < (r0.i 20).toInt) (u : UCau s0 r0 AL p q h w c) (e : f_X12_run_122 N n r = some U) : NXTW N H D T s0 r0 nm AL n U := by
  obtain ⟨u1, u2, ⟨a, ha, ak, u3, u4⟩, u6, w', u7, u8⟩ := u
  obtain ⟨m, S, V, hn, ⟨e1, e2, e3, e4⟩, ⟨v1, v2, v3⟩, ⟨o1, o2⟩, oc, ⟨hp, hq3⟩, x1⟩ := pt_tick hN hct pt hq (by omega) e
  have rf := pt.2.1
  have mc := pt.2.2.1.1
  have h21 : r.a 21 q = r0.a 21 q := by rw [rf.2 21 (by decide)]
  have h22 : r.a 22 q = r0.a 22 q := by rw [rf.2 22 (by decide)]
  obtain ⟨b, b1, b2, -⟩ := pt.2.2.1.2.1.1.1.cat a ha ak
  obtain ⟨-, ck, -⟩ := hct _ _ _ _ _ _ pt.2.2.2.2.1
  have z7 := ((ck.in a ha).1 a.z (Or.inl ⟨ak, rfl⟩)).1
  have eS : S = cPu (cNx s) (gAt (s.a 59) 720 (cAr s)) := xi_1 (o1.trans u1) e1
  have eV := xa_4 (r := rNx r) (by rw [mc.clq]; exact h21.trans u2) v1
  have zc : (cAr s).toInt = (a.z : Int) := by rw [o2]; exact u3
  have g1 : gAt (s.a 59) 720 (cAr s) = s.a 59 a.z := by
    unfold gAt
    rw [if_pos ⟨by omega, by omega⟩, cl_nat zc]
  have g2 : (rNx r).a 87 ((rNx r).a 84 ((rNx r).a 22 (r.i 92).toNatClampNeg).toNatClampNeg).toNatClampNeg = s.a 59 a.z := by
    rw [mc.clq]
    show r.a 87 (r.a 84 (r.a 22 q).toNatClampNeg).toNatClampNeg = s.a 59 a.z
    rw [h22, cl_nat u4, cl_nat b1]
    exact b2.symm
  rw [g1] at eS
  rw [g2] at eV
  obtain ⟨m1, m2, m3⟩ := un_put mc (by omega) (by omega) u6 (s.a 59 a.z)
  rw [← eS, ← eV] at m1
  rw [← eS] at m2
  rw [← eV] at m3
  exact pl_fin hct pt hn x1 e3 v3 v2 m1 m2 m3 u8 u7 (by decide) (BTP.no (by decide))
/-- KEEP -/
def UKep (s0 : CS) (r0 : RS) (AL : Als) (p q h w g : Nat) (c : List Ent) : Prop := ((s0.a 15 p = 32 ∧ r0.a 21 q = 12) ∨ (s0.a 15 p = 33 ∧ r0.a 21 q = 11)) ∧ ∃ h' g' : Nat, h = h' + 1 ∧ JX s0 AL (s0.a 16 p) (r0.a 22 q) h w 1 g' c ∧ NXW AL (p + 1) (q + 1) h' w 1 0 c ∧ (g' = 0 ∨ (g' = 2 ∧ g = 2) ∨ (g' = 3 ∧ s0.a 15 p = 32 ∧ g = 2) ∨ (g' = 4 ∧ s0.a 15 p = 33 ∧ g = 2))
theorem u_kep {N H n : Nat} (hN : 10000000000 ≤ N) {D : Nat → List Nat} {T : Int32 × CS} {s0 : CS} {r0 : RS} {nm : Nat → Nat → Prop} {AL : Als} {s : CS} {r : RS} {mu : Nat → Nat} {h p q w g : Nat} {c : List Ent} {x : Int32} {U : Int32 × RS} (hct : HCT nm AL) (pt : PTX N H D T s0 r0 nm AL s r mu h p q w g c x) (hq : (q : Int) < (r0.i 20).toInt) (u : UKep s0 r0 AL p q h w g c) (e : f_X12_run_122 N n r = some U) : NXTW N H D T s0 r0 nm AL n U := by
  obtain ⟨u1, h', g', eh, ⟨p', q', w', ⟨u3, u4⟩, u5, u6⟩, ⟨w'', u7, u8⟩, u9⟩ := u
  obtain ⟨m, S, V, hn, ⟨e1, e2, e3, e4⟩, ⟨v1, v2, v3⟩, ⟨o1, o2⟩, oc, ⟨hp, hq3⟩, x1⟩ := pt_tick hN hct pt hq (by omega) e
  have rf := pt.2.1
  have h21 : r.a 21 q = r0.a 21 q := by rw [rf.2 21 (by decide)]
  have h22 : r.a 22 q = r0.a 22 q := by rw [rf.2 22 (by decide)]
  have mc := pt.2.2.1.1
  rw [eh] at mc u6
  obtain ⟨m1, m2, m3⟩ := un_keep mc (by omega) (by omega) (by rw [o1, h21]; exact u1) (by rw [oc, o2]; exact u3) (by rw [h22]; exact u4) e1 v1
  rcases m1 with m1 | m1
  · refine pl_fin hct pt hn x1 e3 v3 v2 m1 m2 m3 u6 u5 (by rcases u9 with z | ⟨z, -⟩ | ⟨z, -⟩ | ⟨z, -⟩ <;> omega) (fun z => ?_)
    have g2 : g = 2 := by rcases u9 with y | ⟨-, y⟩ | ⟨-, -, y⟩ | ⟨-, -, y⟩ <;> omega
    obtain ⟨k, ek, hk, -, -⟩ := pt.2.2.2.1 (by omega)
    have eS := xi_kp (by rw [o1]; rcases u1 with ⟨y, -⟩ | ⟨y, -⟩; exact Or.inl y; exact Or.inr y) e1
    have eS' : S = if (cTp s = 0 ↔ cOp s = 32) then CS.setI (cNx s) 66 (gAt (s.a 17) 1024 (cAr s)) else cPo (cNx s) := eS
    have hv := mc.2.1.1
    have e65 : (s.i 65).toInt = (h' : Int) + 1 := by
      rw [hv.1]
      omega
    have ct : cTp s = s.a 60 h' := cTp_at e65 (by omega)
    have hS : (S.i 65).toInt = ((h' + 1 : Nat) : Int) := m1.2.1.1.1
    by_cases y : (cTp s = 0 ↔ cOp s = 32)
    · rw [if_pos y] at eS'
      have ea : S.a 60 = s.a 60 := by
        rw [eS']
        rfl
      have kh : k = h' := by omega
      rw [kh] at hk
      refine ⟨h', by omega, by rw [ea]; exact hk, fun z3 => ?_, fun z4 => ?_⟩
      · rw [ea, ← ct]
        rcases u9 with y' | ⟨y', -⟩ | ⟨-, y', -⟩ | ⟨y', -⟩
        · omega
        · omega
        · exact y.mpr (o1.trans y')
        · omega
      · rw [ea]
        rcases u9 with y' | ⟨y', -⟩ | ⟨y', -⟩ | ⟨-, y', -⟩
        · omega
        · omega
        · omega
        · rcases hk with hk | hk
          · have := y.mp (ct.trans hk)
            rw [o1, y'] at this
            exact absurd this (by decide)
          · exact hk
    · rw [if_neg y] at eS'
      have q65 : (S.i 65).toInt = (h' : Int) := by
        rw [eS']
        show ((CS.setI (cNx s) 65 ((cNx s).i 65 - 1)).i 65).toInt = _
        rw [ci_at]
        exact sub_n1 (by rw [cNx_i (by decide)]; exact e65)
      omega
  · exact pl_fin hct pt hn x1 e3 v3 v2 m1 m2 m3 u8 u7 (by decide) (BTP.no (by decide))
/-- the reference's KEEP alone: what it keeps is known -/
def URkp (r0 : RS) (AL : Als) (p q h w g : Nat) (c : List Ent) : Prop := ((r0.a 21 q = 12 ∧ g = 3) ∨ (r0.a 21 q = 11 ∧ g = 4)) ∧ ∃ h' q' w' g' : Nat, h = h' + 1 ∧ (r0.a 22 q).toInt = (q' : Int) ∧ AL p q' h w' g' c ∧ w' ≤ w ∧ (g' = 2 ∨ g' = g)
theorem u_rkp {N H n : Nat} {D : Nat → List Nat} {T : Int32 × CS} {s0 : CS} {r0 : RS} {nm : Nat → Nat → Prop} {AL : Als} {s : CS} {r : RS} {mu : Nat → Nat} {h p q w g : Nat} {c : List Ent} {x : Int32} {U : Int32 × RS} (hct : HCT nm AL) (pt : PTX N H D T s0 r0 nm AL s r mu h p q w g c x) (hq : (q : Int) < (r0.i 20).toInt) (u : URkp r0 AL p q h w g c) (e : f_X12_run_122 N n r = some U) : NXTW N H D T s0 r0 nm AL n U := by
  obtain ⟨u1, h', q', w', g', eh, u2, u3, u4, u5⟩ := u
  obtain ⟨p1, p2, ⟨mc, p4, p5⟩, p6, p7, p8⟩ := pt
  obtain ⟨⟨hp, hq3⟩, ck, -⟩ := hct _ _ _ _ _ _ p7
  have h21 : r.a 21 q = r0.a 21 q := by rw [p2.2 21 (by decide)]
  have h22 : r.a 22 q = r0.a 22 q := by rw [p2.2 22 (by decide)]
  have q92 := mc.1.2.2
  have i20 : r.i 20 = r0.i 20 := p2.1 20 (by decide)
  have g2 : 2 ≤ g := by rcases u1 with ⟨-, z⟩ | ⟨-, z⟩ <;> omega
  obtain ⟨k, ek, kk, k3, k4⟩ := p6 g2
  have kh : k = h' := by omega
  rw [kh] at kk k3 k4
  cases n with
  | zero => cases e
  | succ m =>
    obtain ⟨V, v1, v2⟩ := rn_one (by omega) (by rw [i20]; omega) e
    have mc' := mc
    rw [eh] at mc'
    have tp : rTp (rNx r) = cTp s := (un_tak mc' (by omega) (by omega)).2.2.2.symm
    have hv := mc'.2.1.1
    have e65 : (s.i 65).toInt = (h' : Int) + 1 := by
      rw [hv.1]
      omega
    have ct : cTp s = s.a 60 h' := cTp_at e65 (by omega)
    have eV : V = RS.setI (rNx r) 92 ((rNx r).a 22 (r.i 92).toNatClampNeg) := by
      rcases u1 with ⟨o, z⟩ | ⟨o, z⟩
      · have g1 := xa_12 (r := rNx r) (by rw [mc.clq]; exact h21.trans o) v1
        rw [tp, ct, if_pos (k3 z)] at g1
        exact g1
      · have g1 := xa_11 (r := rNx r) (by rw [mc.clq]; exact h21.trans o) v1
        rw [tp, ct, if_neg (by rw [k4 z]; decide)] at g1
        exact g1
    obtain ⟨b1, b2⟩ := un_toR (y := r.i 92 + 1) (q' := q + 1) mc (by rw [ad1 (by omega) (by omega), q92]; rfl)
    have y22 : ((rNx r).a 22 (r.i 92).toNatClampNeg).toInt = (q' : Int) := by
      rw [mc.clq]
      show (r.a 22 q).toInt = (q' : Int)
      rw [h22]
      exact u2
    obtain ⟨c1, c2⟩ := un_toR (y := (rNx r).a 22 (r.i 92).toNatClampNeg) b1 y22
    have ev : EXV nm r V := by
      rw [eV]
      exact b2.tr c2
    have ec : EXC nm s s := ⟨fun _ _ _ _ _ => rfl, fun _ _ _ _ => rfl, ⟨rfl, rfl, rfl, rfl, rfl⟩, fun _ _ => rfl⟩
    have gz : gcr g = 0 := if_neg (by omega)
    have gz' : gcr g' = 0 := if_neg (by omega)
    have go : gpo g = 0 := if_neg (by omega)
    have go' : gpo g' = 0 := if_neg (by omega)
    have d := p4.ex ck ec ev
    have st := ev.2.2.2
    refine Or.inl ⟨m, s, V, mu, h, p, q', w', g', c, x, by omega, ⟨p1, p2.tr ev.rfx, ⟨by rw [eV]; exact c1, by rw [gz']; rw [gz] at d; exact d, p5.ex ec ev⟩, fun _ => ⟨h', eh, kk, fun y => k3 (by omega), fun y => k4 (by omega)⟩, u3, by omega⟩, v2⟩
/-- the class's GOTO alone -/
def UCgo (s0 : CS) (AL : Als) (p q h w : Nat) (c : List Ent) : Prop := s0.a 15 p = 30 ∧ ∃ p' w' : Nat, (cTg s0 (s0.a 16 p)).toInt = (p' : Int) ∧ w' + 1 ≤ w ∧ AL p' q h w' 0 c
theorem u_cgo {N H : Nat} (hN : 10000000000 ≤ N) {D : Nat → List Nat} {T : Int32 × CS} {s0 : CS} {r0 : RS} {nm : Nat → Nat → Prop} {AL : Als} {s : CS} {r : RS} {mu : Nat → Nat} {h p q w g : Nat} {c : List Ent} {x : Int32} (hct : HCT nm AL) (pt : PTX N H D T s0 r0 nm AL s r mu h p q w g c x) (u : UCgo s0 AL p q h w c) : ∃ (S : CS) (p' w' : Nat) (x' : Int32), w' < w ∧ PTX N H D T s0 r0 nm AL S r mu h p' q w' 0 c x' := by
  obtain ⟨bx, x0⟩ := bud_x pt
  obtain ⟨p1, p2, ⟨p3, p4, p5⟩, p6, p7, p8⟩ := pt
  obtain ⟨u1, p', w', u2, u3, u4⟩ := u
  obtain ⟨⟨hp, hq3⟩, ck, -⟩ := hct _ _ _ _ _ _ p7
  obtain ⟨S, e1, e2, e3, e4⟩ := p1.on hN p3.1.1.1 p3.1.1.2 (by omega)
  have o := cop_at p3.1.2.1 hp
  rw [p1.2.1.2.1 15 (by decide), p1.2.1.2.1 16 (by decide)] at o
  have ec : cTg s = cTg s0 := by
    funext t
    unfold cTg
    rw [p1.2.1.2.1 17 (by decide)]
  have eS : S = CS.setI (cNx s) 66 (gAt (s.a 17) 1024 (cAr s)) := xi_30 (o.1.trans u1) e1
  have Si : ∀ j : Nat, j ≠ 66 → S.i j = s.i j := fun j hj => by rw [eS, ci_ne _ _ _ hj, cNx_i hj]
  have Sa : S.a = s.a := by rw [eS]; rfl
  have Sr : S.r = s.r ∧ S.w = s.w ∧ S.o = s.o ∧ S.ot = s.ot ∧ S.oa = s.oa := by rw [eS]; exact ⟨rfl, rfl, rfl, rfl, rfl⟩
  have S66 : (S.i 66).toInt = (p' : Int) := by
    rw [eS, ci_at]
    have z : (cTg s (cAr s)).toInt = (p' : Int) := by rw [ec, o.2]; exact u2
    exact z
  have x1 : (x + 1).toInt = x.toInt + 1 := ad1 x0 (by omega)
  have exc : EXC nm s S := ⟨fun j _ j2 _ _ => Si j j2, fun k _ _ _ => by rw [Sa], Sr, fun k _ => by rw [Sa]⟩
  have exv : EXV nm r r := ⟨fun _ _ _ _ _ => rfl, fun _ _ _ _ _ => rfl, fun _ _ => rfl, Int.le_refl _⟩
  have mc : MCO nm S r h p' q := by
    obtain ⟨⟨⟨c1, c2⟩, c3, c4⟩, c5, c6, c7⟩ := p3
    refine ⟨⟨⟨by rw [Si 72 (by decide)]; exact c1, by rw [Si 73 (by decide)]; exact c2⟩, S66, c4⟩, ?_, ?_, fun k l z => by rw [Sa]; exact c7 k l z⟩
    · unfold MVS at *
      rw [Si 65 (by decide), Sa]
      exact c5
    · unfold MTR at *
      rw [Si 69 (by decide), Si 70 (by decide), Sa]
      exact c6
  have gg : 0 ≤ gcr g ∧ 0 ≤ gpo g := by
    unfold gcr gpo
    by_cases z : g = 1
    · rw [if_pos z, if_pos z]
      decide
    · rw [if_neg z, if_neg z]
      decide
  have d := p4.ex ck exc exv
  have d' : DYN S r mu AL c (-(gcr 0)) := by
    obtain ⟨⟨d1, d2, d3, ⟨d4, d5⟩, d6, d7⟩, o⟩ := d
    exact ⟨⟨d1, d2, d3, ⟨d4, by have : gcr 0 = 0 := rfl; omega⟩, d6, d7⟩, o⟩
  have g0 : gpo 0 = 0 := rfl
  exact ⟨S, p', w', x + 1, by omega, ⟨e3 mc.1.1.1, p2, ⟨mc, d', p5.ex exc exv⟩, BTP.no (by decide), u4, by omega⟩⟩
