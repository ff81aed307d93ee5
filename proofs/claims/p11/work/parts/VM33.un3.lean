/-! both machines: units of more than one step -/
theorem pl_fink {N H n m k : Nat} {D : Nat → List Nat} {T : Int32 × CS} {s0 : CS} {r0 : RS} {nm : Nat → Nat → Prop} {AL : Als} {s S : CS} {r V : RS} {mu : Nat → Nat} {h p q w g h' p' q' w' g' : Nat} {c : List Ent} {x y : Int32} {U : Int32 × RS} (hct : HCT nm AL) (pt : PTX N H D T s0 r0 nm AL s r mu h p q w g c x) (hn : m < n) (x1 : y.toInt ≤ x.toInt + k) (cr : CRN N H D T s0 S y) (rf : RFX r0 V) (run : f_X12_run_122 N m V = some U) (mc : MCO nm S V h' p' q') (ec : EXC nm s S) (ev : EXV nm r V) (al : AL p' q' h' w' g' c) (hw : w' + k ≤ w) (g1 : ¬ g' = 1) (bt : BTP S h' g') : NXTW N H D T s0 r0 nm AL n U := by
  obtain ⟨p1, p2, ⟨p3, p4, p5⟩, p6, p7, p8⟩ := pt
  obtain ⟨-, ck, -⟩ := hct _ _ _ _ _ _ p7
  have gz : gcr g' = 0 := if_neg g1
  have gz' : gpo g' = 0 := if_neg g1
  have gg : 0 ≤ gcr g ∧ 0 ≤ gpo g := by
    unfold gcr gpo
    by_cases z : g = 1
    · rw [if_pos z, if_pos z]
      decide
    · rw [if_neg z, if_neg z]
      decide
  have d := p4.ex ck ec ev
  have d' : DYN S V mu AL c (-(gcr g')) := by
    obtain ⟨⟨d1, d2, d3, ⟨d4, d5⟩, d6, d7⟩, o⟩ := d
    exact ⟨⟨d1, d2, d3, ⟨d4, by omega⟩, d6, d7⟩, o⟩
  have st := ev.2.2.2
  exact Or.inl ⟨m, S, V, mu, h', p', q', w', g', c, y, hn, ⟨cr, rf, ⟨mc, d', p5.ex ec ev⟩, bt, al, by omega⟩, run⟩
/-- a second instruction of the class -/
theorem tick2 {N H : Nat} (hN : 10000000000 ≤ N) {D : Nat → List Nat} {T : Int32 × CS} {s0 S : CS} {p : Nat} {x : Int32} (cr : CRN N H D T s0 S x) (h72 : S.i 72 = -1) (h73 : S.i 73 = 0) (h66 : (S.i 66).toInt = (p : Int)) (hp : p < 1200) (hx : x.toInt < 4000000) : ∃ S2 : CS, f_X3_instruction N S = some ((), S2) ∧ (S2.i 72 = -1 → CRN N H D T s0 S2 (x + 1)) ∧ (¬ S2.i 72 = -1 → T = (S2.i 72, S2)) ∧ (cOp S = s0.a 15 p ∧ cAr S = s0.a 16 p) ∧ cTg S = cTg s0 ∧ (x + 1).toInt = x.toInt + 1 := by
  obtain ⟨S2, e1, e2, e3, e4⟩ := cr.on hN h72 h73 hx
  have o := cop_at h66 hp
  rw [cr.2.1.2.1 15 (by decide), cr.2.1.2.1 16 (by decide)] at o
  refine ⟨S2, e1, e3, e4, o, ?_, ad1 cr.2.2.1.1 (by omega)⟩
  funext t
  unfold cTg
  rw [cr.2.1.2.1 17 (by decide)]
/-- NOT, IF_NOT against JNZ -/
def UJnf (s0 : CS) (r0 : RS) (AL : Als) (p q h w g : Nat) (c : List Ent) : Prop := (s0.a 15 p = 5 ∧ s0.a 15 (p + 1) = 31 ∧ r0.a 21 q = 14 ∧ p + 1 < 1200) ∧ g = 2 ∧ ∃ h' : Nat, h = h' + 1 ∧ JX s0 AL (s0.a 16 (p + 1)) (r0.a 22 q) h' w 2 0 c ∧ NXW AL (p + 2) (q + 1) h' w 2 0 c
theorem u_jnf {N H n : Nat} (hN : 10000000000 ≤ N) {D : Nat → List Nat} {T : Int32 × CS} {s0 : CS} {r0 : RS} {nm : Nat → Nat → Prop} {AL : Als} {s : CS} {r : RS} {mu : Nat → Nat} {h p q w g : Nat} {c : List Ent} {x : Int32} {U : Int32 × RS} (hct : HCT nm AL) (pt : PTX N H D T s0 r0 nm AL s r mu h p q w g c x) (hq : (q : Int) < (r0.i 20).toInt) (u : UJnf s0 r0 AL p q h w g c) (e : f_X12_run_122 N n r = some U) : NXTW N H D T s0 r0 nm AL n U := by
  obtain ⟨⟨u1, u2, u3, u3'⟩, u4, h', eh, ⟨p', q', w', ⟨u5, u6⟩, u7, u8⟩, w'', u9, u10⟩ := u
  obtain ⟨m, S, V, hn, ⟨e1, e2, e3, e4⟩, ⟨v1, v2, v3⟩, ⟨o1, o2⟩, oc, ⟨hp, hq3⟩, x1⟩ := pt_tick hN hct pt hq (by omega) e
  have rf := pt.2.1
  have h21 : r.a 21 q = r0.a 21 q := by rw [rf.2 21 (by decide)]
  have h22 : r.a 22 q = r0.a 22 q := by rw [rf.2 22 (by decide)]
  obtain ⟨bx, x0⟩ := bud_x pt
  have mc := pt.2.2.1.1
  rw [eh] at mc
  have hv := mc.2.1.1
  have eS : S = cPu (cPo (cNx s)) (1 - cTp s) := xi_5 (o1.trans u1) e1
  have e65 : (s.i 65).toInt = (h' : Int) + 1 := by
    rw [hv.1]
    omega
  have q65 : ((cPo (cNx s)).i 65).toInt = (h' : Int) := by
    show ((CS.setI (cNx s) 65 ((cNx s).i 65 - 1)).i 65).toInt = _
    rw [ci_at]
    exact sub_n1 (by rw [cNx_i (by decide)]; exact e65)
  obtain ⟨k, ek, hk, -, -⟩ := pt.2.2.2.1 (by omega)
  have kh : k = h' := by omega
  rw [kh] at hk
  have ct : cTp s = s.a 60 h' := cTp_at e65 (by omega)
  have S65 : (S.i 65).toInt = (h' : Int) + 1 := by
    rw [eS]
    show ((CS.setI (CS.putA (cPo (cNx s)) 60 (gPut ((cPo (cNx s)).a 60) 600 ((cPo (cNx s)).i 65) (1 - cTp s))) 65 ((cPo (cNx s)).i 65 + 1)).i 65).toInt = _
    rw [ci_at, ad1 (by omega) (by omega), q65]
  have Stop : S.a 60 h' = 1 - cTp s := by
    rw [eS]
    exact cPu_top q65 (by omega)
  have Sct : cTp S = 1 - cTp s := (cTp_at S65 (by omega)).trans Stop
  have Si : ∀ j : Nat, j ≠ 65 → j ≠ 66 → S.i j = s.i j := fun j a b => by rw [eS, cPu_i a, cPo_i a, cNx_i b]
  have S66 : (S.i 66).toInt = ((p + 1 : Nat) : Int) := by
    rw [eS, cPu_i (by decide), cPo_i (by decide)]
    exact cNx_66 mc.1.2.1 (by omega)
  have Sa : ∀ k : Nat, k ≠ 60 → S.a k = s.a k := fun k a => by
    rw [eS, cPu_a a]
    rfl
  have Sl : ∀ k : Nat, k < h' → S.a 60 k = s.a 60 k := fun k hk' => by
    rw [eS]
    show gPut ((cPo (cNx s)).a 60) 600 ((cPo (cNx s)).i 65) (1 - cTp s) k = s.a 60 k
    unfold gPut
    rw [if_pos ⟨by omega, by omega⟩, cl_nat q65]
    exact if_neg (by omega)
  have Sr : S.r = s.r ∧ S.w = s.w ∧ S.o = s.o ∧ S.ot = s.ot ∧ S.oa = s.oa := by
    rw [eS]
    exact ⟨rfl, rfl, rfl, rfl, rfl⟩
  have S72 : S.i 72 = -1 := (Si 72 (by decide) (by decide)).trans mc.1.1.1
  have S73 : S.i 73 = 0 := (Si 73 (by decide) (by decide)).trans mc.1.1.2
  obtain ⟨S2, f1, f2, -, ⟨f4, f5⟩, f6, x2⟩ := tick2 hN (e3 S72) S72 S73 S66 u3' (by omega)
  have f7 := xi_31 (f4.trans u2) f1
  have f7' : S2 = if cTp S = 0 then CS.setI (cPo (cNx S)) 66 (cTg S (cAr S)) else cPo (cNx S) := f7
  obtain ⟨t1, t2, t3, t4⟩ := un_tak mc (by omega) (by omega)
  have g1 := xa_14 (r := rNx r) (by rw [mc.clq]; exact h21.trans u3) v1
  have tp : rTp (rNx r) = cTp s := t4.symm
  rw [tp, mc.clq] at g1
  have n4 := t1.1.2.2
  have S2i : ∀ j : Nat, j ≠ 66 → (cPo (cNx S)).i j = (cPo (cNx s)).i j := fun j a => by
    by_cases b : j = 65
    · rw [b]
      exact Int32.toInt_inj.mp (by
        rw [q65]
        show ((CS.setI (cNx S) 65 ((cNx S).i 65 - 1)).i 65).toInt = _
        rw [ci_at]
        exact sub_n1 (by rw [cNx_i (by decide)]; exact S65))
    · rw [cPo_i b, cNx_i a, cPo_i b, cNx_i a]
      exact Si j b a
  have fin : ∀ (S3 : CS) (pp : Nat), (∀ j : Nat, j ≠ 66 → S3.i j = (cPo (cNx S)).i j) → S3.a = S.a → (S3.r = S.r ∧ S3.w = S.w ∧ S3.o = S.o ∧ S3.ot = S.ot ∧ S3.oa = S.oa) → (S3.i 66).toInt = (pp : Int) → MCO nm S3 (rPo (rNx r)) h' pp (q + 1) ∧ EXC nm (cPo (cNx s)) S3 := fun S3 pp i1 i2 i3 i4 => by
    obtain ⟨j1, j2, j3, j4, j5⟩ := i3
    obtain ⟨k1, k2, k3, k4, k5⟩ := Sr
    exact un_pc t1 (fun j a => (i1 j a).trans (S2i j a)) (fun k a => by rw [i2]; exact Sa k a) (fun k a => by rw [i2]; exact Sl k a) ⟨j1.trans k1, j2.trans k2, j3.trans k3, j4.trans k4, j5.trans k5⟩ i4
  have p2 : ((cPo (cNx S)).i 66).toInt = ((p + 2 : Nat) : Int) := by
    rw [cPo_i (by decide)]
    exact cNx_66 S66 (by omega)
  rcases hk with hk | hk
  · -- false: both go on
    have c0 : cTp s = 0 := ct.trans hk
    have c1 : ¬ cTp S = 0 := by
      rw [Sct, c0]
      decide
    rw [if_neg c1] at f7'
    rw [if_pos c0] at g1
    obtain ⟨m1, m2⟩ := fin (cPo (cNx S)) (p + 2) (fun _ _ => rfl) rfl ⟨rfl, rfl, rfl, rfl, rfl⟩ p2
    have n92 : ((rNx r).i 92).toInt = ((q + 1 : Nat) : Int) := by
      have := n4
      rw [rPo_i (by decide)] at this
      exact this
    obtain ⟨b1, b2⟩ := un_toR (y := (rNx r).i 92) m1 n92
    rw [← f7'] at b1 m2
    rw [← g1] at b1 b2
    exact pl_fink (k := 2) hct pt (by omega) (by omega) (f2 b1.1.1.1) v3 v2 b1 (t2.tr m2) (t3.tr b2) u10 u9 (by decide) (BTP.no (by decide))
  · -- true: both jump
    have c0 : ¬ cTp s = 0 := by
      rw [ct, hk]
      decide
    have c1 : cTp S = 0 := by
      rw [Sct, ct, hk]
      decide
    rw [if_pos c1] at f7'
    rw [if_neg c0] at g1
    obtain ⟨m1, m2⟩ := fin (CS.setI (cPo (cNx S)) 66 (cTg S (cAr S))) p' (fun j a => ci_ne _ _ _ a) rfl ⟨rfl, rfl, rfl, rfl, rfl⟩ (by rw [ci_at, f6, f5]; exact u5)
    obtain ⟨b1, b2⟩ := un_toR (y := (rNx r).a 22 q) m1 (by show (r.a 22 q).toInt = _; rw [h22]; exact u6)
    rw [← f7'] at b1 m2
    rw [← g1] at b1 b2
    exact pl_fink (k := 2) hct pt (by omega) (by omega) (f2 b1.1.1.1) v3 v2 b1 (t2.tr m2) (t3.tr b2) u8 u7 (by decide) (BTP.no (by decide))
/-- IF_NOT, GOTO against JNZ: the end of a do -/
def UJnb (s0 : CS) (r0 : RS) (AL : Als) (p q h w g : Nat) (c : List Ent) : Prop := (s0.a 15 p = 31 ∧ s0.a 15 (p + 1) = 30 ∧ r0.a 21 q = 14 ∧ p + 1 < 1200) ∧ ∃ h' : Nat, h = h' + 1 ∧ JX s0 AL (s0.a 16 (p + 1)) (r0.a 22 q) h' w 2 0 c ∧ (g = 4 ∨ ∃ p' w' : Nat, (cTg s0 (s0.a 16 p)).toInt = (p' : Int) ∧ w' + 1 ≤ w ∧ AL p' (q + 1) h' w' 0 c)
theorem u_jnb {N H n : Nat} (hN : 10000000000 ≤ N) {D : Nat → List Nat} {T : Int32 × CS} {s0 : CS} {r0 : RS} {nm : Nat → Nat → Prop} {AL : Als} {s : CS} {r : RS} {mu : Nat → Nat} {h p q w g : Nat} {c : List Ent} {x : Int32} {U : Int32 × RS} (hct : HCT nm AL) (pt : PTX N H D T s0 r0 nm AL s r mu h p q w g c x) (hq : (q : Int) < (r0.i 20).toInt) (u : UJnb s0 r0 AL p q h w g c) (e : f_X12_run_122 N n r = some U) : NXTW N H D T s0 r0 nm AL n U := by
  obtain ⟨⟨u1, u2, u3, u3'⟩, h', eh, ⟨p', q', w', ⟨u5, u6⟩, u7, u8⟩, ux⟩ := u
  have bt := pt.2.2.2.1
  obtain ⟨m, S, V, hn, ⟨e1, e2, e3, e4⟩, ⟨v1, v2, v3⟩, ⟨o1, o2⟩, oc, ⟨hp, hq3⟩, x1⟩ := pt_tick hN hct pt hq (by omega) e
  have rf := pt.2.1
  have h21 : r.a 21 q = r0.a 21 q := by rw [rf.2 21 (by decide)]
  have h22 : r.a 22 q = r0.a 22 q := by rw [rf.2 22 (by decide)]
  obtain ⟨bx, x0⟩ := bud_x pt
  have mc := pt.2.2.1.1
  rw [eh] at mc
  obtain ⟨t1, t2, t3, t4⟩ := un_tak mc (by omega) (by omega)
  have g1 := xa_14 (r := rNx r) (by rw [mc.clq]; exact h21.trans u3) v1
  have tp : rTp (rNx r) = cTp s := t4.symm
  rw [tp, mc.clq] at g1
  have f7 := xi_31 (o1.trans u1) e1
  have f7' : S = if cTp s = 0 then CS.setI (cPo (cNx s)) 66 (cTg s (cAr s)) else cPo (cNx s) := f7
  by_cases c0 : cTp s = 0
  · rcases ux with g4 | ⟨p'', w'', u9, u10, u11⟩
    · exfalso
      obtain ⟨k, ek, -, -, k4⟩ := bt (by omega)
      have kh : k = h' := by omega
      have t60 := k4 g4
      rw [kh] at t60
      have hv := mc.2.1.1
      have e65 : (s.i 65).toInt = (h' : Int) + 1 := by
        rw [hv.1]
        omega
      have h6 : h' < 600 := by
        have := hv.2.2
        omega
      rw [cTp_at' e65 h6, t60] at c0
      exact absurd c0 (by decide)
    rw [if_pos c0] at f7' g1
    obtain ⟨a1, a2⟩ := un_toC (x := cTg s (cAr s)) t1 (by rw [oc, o2]; exact u9)
    have n92 : ((rNx r).i 92).toInt = ((q + 1 : Nat) : Int) := by
      have := t1.1.2.2
      rw [rPo_i (by decide)] at this
      exact this
    obtain ⟨b1, b2⟩ := un_toR (y := (rNx r).i 92) a1 n92
    rw [← f7'] at b1 a2
    rw [← g1] at b1 b2
    exact pl_fin hct pt hn x1 e3 v3 v2 b1 (t2.tr a2) (t3.tr b2) u11 u10 (by decide) (BTP.no (by decide))
  · rw [if_neg c0] at f7' g1
    have S66 : (S.i 66).toInt = ((p + 1 : Nat) : Int) := by
      rw [f7']
      exact t1.1.2.1
    have S72 : S.i 72 = -1 := by
      rw [f7']
      exact t1.1.1.1
    have S73 : S.i 73 = 0 := by
      rw [f7']
      exact t1.1.1.2
    obtain ⟨S2, f1, f2, -, ⟨f4, f5⟩, f6, x2⟩ := tick2 hN (e3 S72) S72 S73 S66 u3' (by omega)
    have f8 := xi_30 (f4.trans u2) f1
    have f8' : S2 = CS.setI (cNx S) 66 (cTg S (cAr S)) := f8
    rw [← f7'] at t1 t2
    obtain ⟨a1, a2⟩ := un_pc (S := S2) (p' := p') t1 (fun j a => by rw [f8', ci_ne _ _ _ a, cNx_i a]) (fun k _ => by rw [f8']; rfl) (fun k _ => by rw [f8']; rfl) (by rw [f8']; exact ⟨rfl, rfl, rfl, rfl, rfl⟩) (by rw [f8', ci_at, f6, f5]; exact u5)
    obtain ⟨b1, b2⟩ := un_toR (y := (rNx r).a 22 q) a1 (by show (r.a 22 q).toInt = _; rw [h22]; exact u6)
    rw [← g1] at b1 b2
    exact pl_fink (k := 2) hct pt (by omega) (by omega) (f2 b1.1.1.1) v3 v2 b1 (t2.tr a2) (t3.tr b2) u8 u7 (by decide) (BTP.no (by decide))
/-- IF_CALM, ASSERTS -/
theorem xi_35 {N : Nat} {s : CS} {R : Unit × CS} (h : cOp s = 35) (e : f_X3_instruction N s = some R) : R.2 = if s.i 14 = 0 then CS.setI (cNx s) 66 (cTg s (cAr s)) else cNx s := by
  have z := xi_ste (by rw [h]; decide) (by rw [h]; decide) (by rw [h]; decide) e
  rw [h] at z
  unfold f_X3_steer f_X3_steer_133 f_X3_goIf at z
  rw [if_neg (by decide), if_neg (by decide), if_neg (by decide), if_neg (by decide), if_neg (by decide), if_pos rfl] at z
  have i14 : (cNx s).i 14 = s.i 14 := cNx_i (by decide)
  rw [i14] at z
  by_cases c : s.i 14 = 0
  · rw [if_pos c] at z ⊢
    rw [if_neg (by decide), ob_some] at z
    rw [← Option.some.inj z]
    rfl
  · rw [if_neg c] at z ⊢
    rw [if_pos rfl, ob_some] at z
    rw [← Option.some.inj z]
def UAsr (s0 : CS) (r0 : RS) (AL : Als) (p q h w : Nat) (c : List Ent) : Prop := s0.a 15 p = 35 ∧ r0.a 21 q = 22 ∧ JX s0 AL (s0.a 16 p) (r0.a 22 q) h w 1 0 c ∧ NXW AL (p + 1) (q + 1) h w 1 0 c
theorem u_asr {N H n : Nat} (hN : 10000000000 ≤ N) {D : Nat → List Nat} {T : Int32 × CS} {s0 : CS} {r0 : RS} {nm : Nat → Nat → Prop} {AL : Als} {s : CS} {r : RS} {mu : Nat → Nat} {h p q w g : Nat} {c : List Ent} {x : Int32} {U : Int32 × RS} (hct : HCT nm AL) (pt : PTX N H D T s0 r0 nm AL s r mu h p q w g c x) (hq : (q : Int) < (r0.i 20).toInt) (u : UAsr s0 r0 AL p q h w c) (e : f_X12_run_122 N n r = some U) : NXTW N H D T s0 r0 nm AL n U := by
  obtain ⟨u1, u2, ⟨p', q', w', ⟨u3, u4⟩, u7, u8⟩, w'', u9, u10⟩ := u
  obtain ⟨m, S, V, hn, ⟨e1, e2, e3, e4⟩, ⟨v1, v2, v3⟩, ⟨o1, o2⟩, oc, ⟨hp, hq3⟩, x1⟩ := pt_tick hN hct pt hq (by omega) e
  have rf := pt.2.1
  have h21 : r.a 21 q = r0.a 21 q := by rw [rf.2 21 (by decide)]
  have h22 : r.a 22 q = r0.a 22 q := by rw [rf.2 22 (by decide)]
  have mc := pt.2.2.1.1
  have as : s.i 14 = r.i 8 := pt.2.2.1.2.2.2.1.2.2.1
  have f7 := xi_35 (o1.trans u1) e1
  have f7' : S = if s.i 14 = 0 then CS.setI (cNx s) 66 (cTg s (cAr s)) else cNx s := f7
  have g1 := xa_22 (r := rNx r) (by rw [mc.clq]; exact h21.trans u2) v1
  have r8 : (rNx r).i 8 = r.i 8 := rNx_i (by decide)
  rw [r8, mc.clq] at g1
  rw [as] at f7'
  obtain ⟨t1, t2, t3⟩ := un_nx mc (by omega) (by omega)
  by_cases c0 : r.i 8 = 0
  · rw [if_pos c0] at f7' g1
    obtain ⟨a1, a2⟩ := un_toC (x := cTg s (cAr s)) t1 (by rw [oc, o2]; exact u3)
    obtain ⟨b1, b2⟩ := un_toR (y := (rNx r).a 22 q) a1 (by show (r.a 22 q).toInt = _; rw [h22]; exact u4)
    rw [← f7'] at b1 a2
    rw [← g1] at b1 b2
    exact pl_fin hct pt hn x1 e3 v3 v2 b1 (t2.tr a2) (t3.tr b2) u8 u7 (by decide) (BTP.no (by decide))
  · rw [if_neg c0] at f7' g1
    obtain ⟨b1, b2⟩ := un_toR (y := (rNx r).i 92) t1 t1.1.2.2
    rw [← f7'] at b1 t2
    rw [← g1] at b1 b2
    exact pl_fin hct pt hn x1 e3 v3 v2 b1 t2 (t3.tr b2) u10 u9 (by decide) (BTP.no (by decide))
