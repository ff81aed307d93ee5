/-! both machines: a frame and a record more -/
theorem en_f {X : CS} {x1 x2 x3 : Int32} {a : Nat} : (EN X x1 x2 x3 a).o a 2 = X.i 65 ∧ (EN X x1 x2 x3 a).oa = X.oa := by
  unfold EN
  refine ⟨?_, rfl⟩
  rw [co_setI, co_setOt, setO_k (by decide), setO_at]
theorem en_c {N : Nat} {s : CS} {d : Nat} {x1 x2 : Int32} {R : Unit × CS} (hd : (s.i 67).toInt = (d : Int)) (d21 : d ≤ 21) (e : f_X3_enter N s x1 x2 = some R) : ∃ f : Nat, R.2.r 61 d = some f ∧ (∀ j : Nat, j ≠ d → R.2.r 61 j = s.r 61 j) ∧ R.2.r 62 = s.r 62 ∧ (∀ j : Nat, j ≠ 67 → R.2.i j = s.i j) ∧ (R.2.i 67).toInt = (d : Int) + 1 ∧ (R.2.a = s.a ∧ R.2.w = s.w) ∧ (R.2.o f 0 = x1 ∧ R.2.o f 1 = x2 ∧ R.2.o f 2 = s.i 65 ∧ R.2.o f 3 = s.i 68) ∧ (∀ g : Nat, g ≠ f → g < s.hs → R.2.o g = s.o g ∧ R.2.ot g = s.ot g) ∧ (∀ g : Nat, g < s.hs → R.2.oa g = s.oa g) ∧ (s.r 61 d = some f ∨ f = s.hs) := by
  unfold f_X3_enter at e
  have e23 : (23 : Int32).toInt = 23 := by decide
  have ei : (if (23 : Int32) < s.i 67 then (23 : Int32) else s.i 67) = s.i 67 := if_neg (by rw [Int32.lt_iff_toInt_lt, e23]; omega)
  rw [ei, cl_nat hd] at e
  obtain ⟨-, e1⟩ := hf_ite e
  have ad : (s.i 67 + 1).toInt = (d : Int) + 1 := by rw [ad1 (by omega) (by omega), hd]
  cases hf : s.r 61 d with
  | none =>
    rw [hf] at e1
    have e2 : ((f_X2_init N (CS.new s 1) (CS.hs s)).bind fun p5 => if ib (s.i 67) 24 then if oK p5.2 (CS.hs s) 1 then f_X3_enter_45 N (CS.setR p5.2 61 d (some (CS.hs s))) x1 x2 (s.i 67) (CS.hs s) else none else none) = some R := e1
    unfold f_X2_init at e2
    rw [ob_some] at e2
    have e3 := (hf_ite (hf_ite e2).2).2
    unfold f_X3_enter_45 at e3
    have e4 := Option.some.inj (hf_ite e3).2
    obtain ⟨Y, hY⟩ : ∃ Y, Y = CS.setR (CS.new s 1) 61 d (some s.hs) := ⟨_, rfl⟩
    have eR : R.2 = EN Y x1 x2 (s.i 67) s.hs := by
      rw [← e4, hY]
      rfl
    have yr : Y.r 61 d = some s.hs := by
      rw [hY, cr_at]
      exact if_pos rfl
    have yr' : ∀ j : Nat, j ≠ d → Y.r 61 j = s.r 61 j := fun j hj => by
      rw [hY, cr_at]
      exact if_neg hj
    have yr2 : Y.r 62 = s.r 62 := by
      rw [hY, cr_ne _ _ _ _ (by decide), cr_new]
    have yi : Y.i = s.i := by
      rw [hY]
      rfl
    have ya : Y.a = s.a ∧ Y.w = s.w := by
      rw [hY]
      exact ⟨rfl, rfl⟩
    have yo : ∀ g : Nat, g < s.hs → Y.o g = s.o g ∧ Y.ot g = s.ot g ∧ Y.oa g = s.oa g := fun g hg => by
      rw [hY, co_setR, cot_setR, coa_setR, co_new _ _ (by omega), cot_new _ _ (by omega), coa_new _ _ (by omega)]
      exact ⟨rfl, rfl, rfl⟩
    clear hY
    obtain ⟨q1, -, -, q4, q5, -⟩ := EN.q (X := Y) (x1 := x1) (x2 := x2) (x3 := s.i 67) (a := s.hs)
    obtain ⟨w1, w2, w3, -⟩ := EN.oa (X := Y) (x1 := x1) (x2 := x2) (x3 := s.i 67) (a := s.hs)
    obtain ⟨w4, w5⟩ := en_f (X := Y) (x1 := x1) (x2 := x2) (x3 := s.i 67) (a := s.hs)
    rw [yi] at w3 w4
    rw [eR]
    refine ⟨s.hs, by rw [q4]; exact yr, fun j hj => by rw [q4]; exact yr' j hj, by rw [q4]; exact yr2, fun j hj => by rw [EN.ne hj, yi], by rw [EN.i67]; exact ad, ⟨q1.trans ya.1, q5.trans ya.2⟩, ⟨w1, w2, w4, w3⟩, fun g hg hl => ?_, fun g hl => by rw [w5]; exact (yo g hl).2.2, Or.inr rfl⟩
    obtain ⟨z1, z2⟩ := EN.o (X := Y) (x1 := x1) (x2 := x2) (x3 := s.i 67) (a := s.hs) hg
    exact ⟨z1.trans (yo g hl).1, z2.trans (yo g hl).2.1⟩
  | some f =>
    rw [hf] at e1
    have e2 : f_X3_enter_45 N s x1 x2 (s.i 67) f = some R := e1
    unfold f_X3_enter_45 at e2
    have e4 := Option.some.inj (hf_ite e2).2
    have eR : R.2 = EN s x1 x2 (s.i 67) f := by
      rw [← e4]
      rfl
    obtain ⟨q1, -, -, q4, q5, -⟩ := EN.q (X := s) (x1 := x1) (x2 := x2) (x3 := s.i 67) (a := f)
    obtain ⟨w1, w2, w3, -⟩ := EN.oa (X := s) (x1 := x1) (x2 := x2) (x3 := s.i 67) (a := f)
    obtain ⟨w4, w5⟩ := en_f (X := s) (x1 := x1) (x2 := x2) (x3 := s.i 67) (a := f)
    rw [eR]
    refine ⟨f, by rw [q4]; exact hf, fun j hj => by rw [q4], by rw [q4], fun j hj => EN.ne hj, by rw [EN.i67]; exact ad, ⟨q1, q5⟩, ⟨w1, w2, w4, w3⟩, fun g hg _ => EN.o hg, fun g _ => by rw [w5], Or.inl rfl⟩
/-- what lies below stays -/
theorem en_feq {s S : CS} {r V : RS} {mu : Nat → Nat} {c : List Ent} {m : Int} {f : Nat} (hr : REFS s) (d21 : frs c ≤ 21) (r61 : ∀ j : Nat, j ≠ frs c → S.r 61 j = s.r 61 j) (r62 : S.r 62 = s.r 62) (ea : S.a 17 = s.a 17 ∧ S.a 59 = s.a 59) (eo : ∀ g : Nat, g ≠ f → g < s.hs → S.o g = s.o g ∧ S.ot g = s.ot g) (eoa : ∀ g : Nat, g < s.hs → S.oa g = s.oa g) (ff : s.r 61 (frs c) = some f ∨ f = s.hs) (gi : V.i 85 = r.i 85 ∧ V.i 3 = r.i 3) (ga : ∀ j : Nat, j ≠ 82 → j ≠ 83 → j ≠ 91 → j < 99 → V.a j = r.a j) (gr : ∀ j i : Nat, 100 ≤ j → j ≤ 109 → i < c.length → V.a j i = r.a j i) : FEQ s S r V mu mu c m ∧ ∀ b : Nat, TLV s r mu b → TLV S V mu b := by
  have tlv : ∀ b : Nat, TLV s r mu b → TLV S V mu b := fun b t => by
    obtain ⟨j, j1, j2⟩ := t.2.2.1
    obtain ⟨l1, l2, l3⟩ := hr.2.2.2.2.2.1 j b j1 j2
    have m1 := hr.1 _ l1.1
    have m2 := hr.1 _ l2.1
    have m3 := hr.1 _ l3.1
    have nb : b ≠ f := fun q => by
      rcases ff with ff | ff
      · have fk := hr.2.2.2.1 (frs c) f (by omega) ff
        have l1k := l1.2
        rw [q, fk.2] at l1k
        exact absurd l1k (by decide)
      · omega
    refine TLV.of (eo b nb m1).1 (eoa _ m2) (eoa _ m3) (fun q => ?_) (by rw [gi.1]; exact Int.le_refl _) ?_ ?_ ?_ (fun i _ => ?_) (fun i _ => ?_) gi.2 t
    · unfold inP at *
      rw [r62]
      exact q
    all_goals rw [ga _ (by decide) (by decide) (by decide) (by decide)]
  refine ⟨⟨fun i g hi hg => ?_, fun b _ t => ⟨tlv b t, rfl, by rw [ga 87 (by decide) (by decide) (by decide) (by decide)]⟩, ⟨ea.1, ga 21 (by decide) (by decide) (by decide) (by decide), ga 23 (by decide) (by decide) (by decide) (by decide), ga 31 (by decide) (by decide) (by decide) (by decide), ga 32 (by decide) (by decide) (by decide) (by decide)⟩, gr, fun a _ => ⟨fun k _ => by rw [ea.2], fun l _ => by rw [ga 84 (by decide) (by decide) (by decide) (by decide)]⟩, fun j _ => by rw [ga 98 (by decide) (by decide) (by decide) (by decide)]⟩, tlv⟩
  have gk := hr.2.2.2.1 i g (by omega) hg
  have ng : g ≠ f := fun q => by
    rcases ff with ff | ff
    · rw [q] at hg
      have := hr.2.2.2.2.1 i (frs c) f (by omega) (by omega) hg ff
      omega
    · have := hr.1 g gk.1
      omega
  exact ⟨by rw [r61 i (by omega)]; exact hg, eo g ng (hr.1 g gk.1)⟩
/-- LOCK, TAKE -/
def UTak (s0 : CS) (r0 : RS) (AL : Als) (p q h w g : Nat) (c : List Ent) : Prop := s0.a 15 p = 53 ∧ r0.a 21 q = 26 ∧ s0.a 16 p = r0.a 22 q ∧ g = 1 ∧ frs c ≤ 21 ∧ NXW AL (p + 1) (q + 1) h w 1 0 ((0, h, 0, 0, 0, 0, 0) :: c)
theorem xi_53 {N : Nat} {s : CS} {R : Unit × CS} (h : cOp s = 53) (e : f_X3_instruction N s = some R) : ∃ P : Unit × CS, f_X3_enter N (cNx s) 0 (cAr s) = some P ∧ f_X3_note N (CS.setI P.2 71 (P.2.i 71 + 1)) 3 (cAr s) = some R := by
  have z := xi_act (by rw [h]; decide) (by rw [h]; decide) (by rw [h]; decide) (by rw [h]; decide) e
  rw [h] at z
  unfold f_X3_act at z
  rw [if_neg (by decide), if_neg (by decide), if_pos rfl] at z
  obtain ⟨P, p1, p2⟩ := hf_bind z
  exact ⟨P, p1, ob_un p2⟩
theorem xi_54 {N : Nat} {s : CS} {R : Unit × CS} (h : cOp s = 54) (e : f_X3_instruction N s = some R) : f_X3_enter N (cNx s) 1 (cAr s) = some R := by
  have z := xi_act (by rw [h]; decide) (by rw [h]; decide) (by rw [h]; decide) (by rw [h]; decide) e
  rw [h] at z
  unfold f_X3_act at z
  rw [if_neg (by decide), if_neg (by decide), if_neg (by decide), if_pos rfl] at z
  exact ob_un z
theorem xi_55 {N : Nat} {s : CS} {R : Unit × CS} (h : cOp s = 55) (e : f_X3_instruction N s = some R) : f_X3_openOne N (cNx s) (cAr s) = some R := by
  have z := xi_act (by rw [h]; decide) (by rw [h]; decide) (by rw [h]; decide) (by rw [h]; decide) e
  rw [h] at z
  unfold f_X3_act at z
  rw [if_neg (by decide), if_neg (by decide), if_neg (by decide), if_neg (by decide), if_pos rfl] at z
  exact ob_un z
theorem u_tak {N H n : Nat} (hN : 10000000000 ≤ N) {D : Nat → List Nat} {T : Int32 × CS} {s0 : CS} {r0 : RS} {nm : Nat → Nat → Prop} {AL : Als} {s : CS} {r : RS} {mu : Nat → Nat} {h p q w g : Nat} {c : List Ent} {x : Int32} {U : Int32 × RS} (hct : HCT nm AL) (pt : PTX N H D T s0 r0 nm AL s r mu h p q w g c x) (hq : (q : Int) < (r0.i 20).toInt) (u : UTak s0 r0 AL p q h w g c) (e : f_X12_run_122 N n r = some U) : NXTW N H D T s0 r0 nm AL n U := by
  obtain ⟨u1, u2, u3, ug, u4, w', u5, u6⟩ := u
  obtain ⟨m, S, V, hn, ⟨e1, e2, e3, e4⟩, ⟨v1, v2, v3⟩, ⟨o1, o2⟩, oc, ⟨hp, hq3⟩, x1⟩ := pt_tick hN hct pt hq (by omega) e
  have rf := pt.2.1
  have h21 : r.a 21 q = r0.a 21 q := by rw [rf.2 21 (by decide)]
  have h22 : r.a 22 q = r0.a 22 q := by rw [rf.2 22 (by decide)]
  obtain ⟨p1, p2, ⟨mc, p4, p5⟩, p6, p7, p8⟩ := pt
  obtain ⟨t1, t2, t3⟩ := un_nx mc (by omega) (by omega)
  obtain ⟨-, ck, -⟩ := hct _ _ _ _ _ _ p7
  obtain ⟨⟨d1, ⟨d2, d2'⟩, d3, ⟨d4, d5⟩, d6, d7⟩, ⟨q1, q2, q3, q4, q5, q6⟩⟩ := p4.ex ck t2 t3
  have tr := p5.ex t2 t3
  have pv : PV s (cNx s) := PV.cnx s
  have hr : REFS (cNx s) := pv.refs p1.1.1
  obtain ⟨E, a1, a2⟩ := xi_53 (o1.trans u1) e1
  obtain ⟨P, Q, b1, b2, b3, b4⟩ := xp_26 (r := rNx r) (by rw [mc.clq]; exact h21.trans u2) v1
  have ex : (rNx r).a 22 (r.i 92).toNatClampNeg = cAr s := by
    rw [mc.clq, o2, u3]
    exact h22
  rw [ex] at b1 b2 b3
  obtain ⟨f, f1, f2, f3, f4, f5, ⟨f6, f6'⟩, ⟨f7, f8, f9, f10⟩, f11, f12, f13⟩ := en_c d2 u4 a1
  -- the rows of the trace
  obtain ⟨X, hX⟩ : ∃ X, X = CS.setI E.2 71 (E.2.i 71 + 1) := ⟨_, rfl⟩
  rw [← hX] at a2
  have Xi : ∀ j : Nat, j ≠ 71 → X.i j = E.2.i j := fun j a => by rw [hX, ci_ne _ _ _ a]
  have X71 : X.i 71 = E.2.i 71 + 1 := by rw [hX, ci_at]
  have Xs : X.a = E.2.a ∧ X.r = E.2.r ∧ X.o = E.2.o ∧ X.ot = E.2.ot ∧ X.oa = E.2.oa := by
    rw [hX]
    exact ⟨rfl, rfl, rfl, rfl, rfl⟩
  clear hX
  obtain ⟨X1, X2, X3, X4, X5⟩ := Xs
  have m0 : MTR X (rNx r) := t1.2.2.1.of ((Xi 69 (by decide)).trans (f4 69 (by decide))) ((Xi 70 (by decide)).trans (f4 70 (by decide))) (by rw [X1, f6]) rfl rfl rfl rfl
  obtain ⟨n1, n2, n3, ⟨n4, n5, n6, n7, n8⟩, n9, n10⟩ := m0.note a2 b1
  -- the lock is counted
  obtain ⟨k8, hk8⟩ : ∃ k : Nat, (cAr s).toInt = (k : Int) := ⟨(cAr s).toInt.toNat, by have := b2.1; omega⟩
  have k8' : k8 < 8 := by have := b2.2; omega
  rw [cl_nat hk8] at b3
  obtain ⟨R1, hR1⟩ : ∃ R1, R1 = RS.setA P 91 k8 (P.a 91 k8 + 1) := ⟨_, rfl⟩
  rw [← hR1] at b3
  have R1i : R1.i = P.i := by
    rw [hR1]
    rfl
  have R1a : ∀ j : Nat, j ≠ 91 → R1.a j = P.a j := fun j a => by
    rw [hR1]
    exact setA_nk (s := P) a
  have R91 : R1.a 91 k8 = P.a 91 k8 + 1 := by rw [hR1, setA_at]
  have R91' : ∀ j : Nat, j ≠ k8 → R1.a 91 j = P.a 91 j := fun j a => by rw [hR1, setA_ne a]
  clear hR1
  have i99 : (R1.i 99).toInt = (c.length : Int) := by
    rw [R1i, n9 99 (by decide)]
    exact d2'
  obtain ⟨c1, c2, c3, c4, c5, c6, c7, c8, c9, c10⟩ := rc_r i99 b3
  rw [← b4] at c2 c3 c4 c5 c6 c7 c8 c9 c10
  have Vi : ∀ j : Nat, j ≠ 81 → j ≠ 99 → V.i j = (rNx r).i j := fun j a b => by rw [c2 j b, R1i, n9 j a]
  have Va : ∀ j : Nat, j ≠ 82 → j ≠ 83 → j ≠ 91 → j ≠ 100 → j ≠ 101 → j ≠ 102 → j ≠ 103 → j ≠ 104 → V.a j = (rNx r).a j := fun j z1 z2 z3 z4 z5 z6 z7 z8 => by rw [c4 j z4 z5 z6 z7 z8, R1a j z3, n10 j z1 z2]
  have V91 : V.a 91 = R1.a 91 := c4 91 (by decide) (by decide) (by decide) (by decide) (by decide)
  have p91 : P.a 91 = (rNx r).a 91 := n10 91 (by decide) (by decide)
  have hs : hS V 8 = hS (rNx r) 8 + 1 := (hS_dec (r := rNx r) (R := V) (m := k8) (v := 1) (by rw [V91, R91, p91]) (fun j a => by rw [V91, R91' j a, p91]) 8).2 k8'
  have Si : ∀ j : Nat, j ≠ 67 → j ≠ 69 → j ≠ 71 → S.i j = (cNx s).i j := fun j z1 z2 z3 => by
    have q := n2 j z2
    rw [Xi j z3, f4 j z1] at q
    exact q
  have S67 : (S.i 67).toInt = (frs c : Int) + 1 := by
    have q := n2 67 (by decide)
    rw [Xi 67 (by decide)] at q
    have q' : S.i 67 = E.2.i 67 := q
    rw [q']
    exact f5
  have S71 : S.i 71 = s.i 71 + 1 := by
    have q := n2 71 (by decide)
    rw [X71, f4 71 (by decide), cNx_i (by decide)] at q
    exact q
  have Sa : ∀ k : Nat, k ≠ 64 → S.a k = (cNx s).a k := fun k a => by
    have q := n3 k a
    rw [X1, f6] at q
    exact q
  have Sr : S.r = E.2.r := by
    have q := n4
    rw [X2] at q
    exact q
  have So : S.o = E.2.o := by
    have q := n6
    rw [X3] at q
    exact q
  have St : S.ot = E.2.ot := by
    have q := n7
    rw [X4] at q
    exact q
  have Soa : S.oa = E.2.oa := by
    have q := n8
    rw [X5] at q
    exact q
  obtain ⟨feq, tlv⟩ := en_feq (s := cNx s) (S := S) (r := rNx r) (V := V) (mu := mu) (m := ((rNx r).i 97).toInt) hr u4 (fun j a => by rw [Sr]; exact f2 j a) (by rw [Sr]; exact f3) ⟨Sa 17 (by decide), Sa 59 (by decide)⟩ (fun g' a b => by rw [So, St]; exact f11 g' a b) (fun g' a => by rw [Soa]; exact f12 g' a) f13 ⟨Vi 85 (by decide) (by decide), Vi 3 (by decide) (by decide)⟩ (fun j z1 z2 z3 z4 => Va j z1 z2 z3 (by omega) (by omega) (by omega) (by omega) (by omega)) (fun j i z1 z2 z3 => by rw [c5 j i (by omega), R1a j (by omega), n10 j (by omega) (by omega)])
  have S72 : S.i 72 = -1 := (Si 72 (by decide) (by decide) (by decide)).trans t1.1.1.1
  have gz : gcr g = 2 := by
    rw [ug]
    rfl
  have gz' : gpo g = 1461 := by
    rw [ug]
    rfl
  have i80 : V.i 80 = r.i 80 := (Vi 80 (by decide) (by decide)).trans (rNx_i (by decide))
  have hv := t1.2.1
  refine Or.inl ⟨m, S, V, mu, h, p + 1, q + 1, w', 0, _, x + 1, by omega, ⟨e3 S72, v3, ⟨⟨⟨⟨S72, (Si 73 (by decide) (by decide) (by decide)).trans t1.1.1.2⟩, by rw [Si 66 (by decide) (by decide) (by decide)]; exact t1.1.2.1, by rw [Vi 92 (by decide) (by decide)]; exact t1.1.2.2⟩, hv.of (Si 65 (by decide) (by decide) (by decide)) (Sa 60 (by decide)) (Vi 93 (by decide) (by decide)) (Va 94 (by decide) (by decide) (by decide) (by decide) (by decide) (by decide) (by decide) (by decide)), n1.of rfl rfl rfl ((c2 80 (by decide)).trans (by rw [R1i])) ((c2 81 (by decide)).trans (by rw [R1i])) ((c4 82 (by decide) (by decide) (by decide) (by decide) (by decide)).trans (R1a 82 (by decide))) ((c4 83 (by decide) (by decide) (by decide) (by decide) (by decide)).trans (R1a 83 (by decide))), fun k l hk => ?_⟩, ⟨⟨?_, ⟨?_, ?_⟩, ?_, ⟨?_, ?_⟩, ?_, ?_⟩, ?_⟩, ?_⟩, BTP.no (by decide), u6, ?_⟩, v2⟩
  · rw [Sa 59 (by decide), Va 84 (by decide) (by decide) (by decide) (by decide) (by decide) (by decide) (by decide) (by decide)]
    exact t1.2.2.2 k l hk
  · refine ⟨?_, Or.inl ⟨rfl, c6, ⟨f, ⟨by rw [Sr]; exact f1, by rw [So]; exact f7, ?_⟩, by rw [So, f8, c7]⟩, ?_⟩⟩
    · rw [c10, R1i, n9 93 (by decide)]
      exact hv.1.2.1
    · rw [So, f9]
      exact hv.1.1
    · rw [Vi 97 (by decide) (by decide)]
      exact d1.of feq
  · show (S.i 67).toInt = ((frs c + 1 : Nat) : Int)
    rw [S67]
    omega
  · show (V.i 99).toInt = ((c.length + 1 : Nat) : Int)
    rw [c3]
    omega
  · rw [S71, hs]
    have q := d3
    rw [cNx_i (by decide)] at q
    rw [q]
  · rw [Vi 85 (by decide) (by decide)]
    exact d4
  · rw [Vi 85 (by decide) (by decide), Vi 80 (by decide) (by decide)]
    show ((rNx r).i 85).toInt + (tps c : Int) ≤ 2 * ((rNx r).i 80).toInt + 0
    omega
  · unfold MUI at *
    rw [Vi 85 (by decide) (by decide)]
    exact d6
  · exact (Vi 115 (by decide) (by decide)).trans d7
  · refine ⟨by rw [Si 68 (by decide) (by decide) (by decide), Vi 95 (by decide) (by decide)]; exact q1, by rw [Vi 95 (by decide) (by decide)]; exact q2, by rw [Vi 95 (by decide) (by decide)]; exact q3, q4, fun k hk => ?_, by rw [Vi 95 (by decide) (by decide)]; exact ⟨fun z => absurd (show (0 : Nat) = 1 from z) (by decide), fun _ => q6.of (fun k hk => by rw [c5 103 k (by omega), R1a 103 (by decide), n10 103 (by decide) (by decide)])⟩⟩
    rw [Vi 95 (by decide) (by decide)] at hk
    rw [Sa 63 (by decide), Va 96 (by decide) (by decide) (by decide) (by decide) (by decide) (by decide) (by decide) (by decide)]
    exact q5 k hk
  · exact tr.of (fun j hj => Si j (by omega) (by omega) (by omega)) (fun k hk => Sa k (by omega)) ⟨fun j hj => Vi j (by omega) (by omega), fun k hk => Va k (by omega) (by omega) (by omega) (by omega) (by omega) (by omega) (by omega) (by omega)⟩
  · rw [i80, x1]
    show x.toInt + 1 + ((fps c + 2 : Nat) : Int) + w' + 0 ≤ _
    omega
