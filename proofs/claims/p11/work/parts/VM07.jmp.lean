/-! both machines: jumps, log, step -/
theorem un_toC {nm : Nat → Nat → Prop} {s : CS} {r : RS} {h p q p' : Nat} {x : Int32} (m : MCO nm s r h p q) (hx : x.toInt = (p' : Int)) : MCO nm (CS.setI s 66 x) r h p' q ∧ EXC nm s (CS.setI s 66 x) := by
  obtain ⟨⟨⟨m1, m2⟩, -, m4⟩, m5, m6, m7⟩ := m
  refine ⟨⟨⟨⟨(ci_ne _ _ _ (by decide)).trans m1, (ci_ne _ _ _ (by decide)).trans m2⟩, ?_, m4⟩, m5.of (ci_ne _ _ _ (by decide)) rfl rfl rfl, m6.of (ci_ne _ _ _ (by decide)) (ci_ne _ _ _ (by decide)) rfl rfl rfl rfl rfl, m7⟩, ⟨fun j _ h2 _ _ => ci_ne _ _ _ h2, fun _ _ _ _ => rfl, ⟨rfl, rfl, rfl, rfl, rfl⟩, fun _ _ => rfl⟩⟩
  rw [ci_at]
  exact hx
theorem un_toR {nm : Nat → Nat → Prop} {s : CS} {r : RS} {h p q q' : Nat} {y : Int32} (m : MCO nm s r h p q) (hy : y.toInt = (q' : Int)) : MCO nm s (RS.setI r 92 y) h p q' ∧ EXV nm r (RS.setI r 92 y) := by
  obtain ⟨⟨m1, m2, -⟩, m5, m6, m7⟩ := m
  refine ⟨⟨⟨m1, m2, ?_⟩, m5.of rfl rfl (ri_ne (by decide)) rfl, m6.of rfl rfl rfl (ri_ne (by decide)) (ri_ne (by decide)) rfl rfl, m7⟩, ⟨fun j _ _ h3 _ => ri_ne h3, fun _ _ _ _ _ => rfl, fun _ _ => rfl, le_80 (ri_ne (by decide))⟩⟩
  rw [ri_at]
  exact hy
/-- where a target lies -/
def cTg (s : CS) (x : Int32) : Int32 := gAt (s.a 17) 1024 x
/-- GOTO, JMP -/
theorem un_jmp {N : Nat} {nm : Nat → Nat → Prop} {s : CS} {r V : RS} {R : Unit × CS} {h p q p' q' : Nat} (m : MCO nm s r h p q) (hp : p < 2000) (hq : q < 4000) (o1 : cOp s = 30) (o2 : r.a 21 q = 15) (ep : (cTg s (cAr s)).toInt = (p' : Int)) (eq : (r.a 22 q).toInt = (q' : Int)) (e : f_X3_instruction N s = some R) (g : f_X12_act N (rNx r) (r.i 92) = some V) : MCO nm R.2 V h p' q' ∧ EXC nm s R.2 ∧ EXV nm r V := by
  have e1 := xi_30 o1 e
  have g1 := xa_15 (r := rNx r) (by rw [m.clq]; exact o2) g
  obtain ⟨t1, t2, t3⟩ := un_nx m hp hq
  obtain ⟨a1, a2⟩ := un_toC (x := gAt (s.a 17) 1024 (cAr s)) t1 ep
  obtain ⟨b1, b2⟩ := un_toR (y := (rNx r).a 22 (r.i 92).toNatClampNeg) a1 (by rw [m.clq]; exact eq)
  rw [e1, g1]
  exact ⟨b1, t2.tr a2, t3.tr b2⟩
/-- IF_NOT, JZ -/
theorem un_jz {N : Nat} {nm : Nat → Nat → Prop} {s : CS} {r V : RS} {R : Unit × CS} {h p q p' q' : Nat} (m : MCO nm s r (h + 1) p q) (hp : p < 2000) (hq : q < 4000) (o1 : cOp s = 31) (o2 : r.a 21 q = 13) (ep : (cTg s (cAr s)).toInt = (p' : Int)) (eq : (r.a 22 q).toInt = (q' : Int)) (e : f_X3_instruction N s = some R) (g : f_X12_act N (rNx r) (r.i 92) = some V) : ((cTp s = 0 ∧ MCO nm R.2 V h p' q') ∨ (¬ cTp s = 0 ∧ MCO nm R.2 V h (p + 1) (q + 1))) ∧ EXC nm s R.2 ∧ EXV nm r V := by
  have e1 := xi_31 o1 e
  have g1 := xa_13 (r := rNx r) (by rw [m.clq]; exact o2) g
  obtain ⟨t1, t2, t3, t4⟩ := un_tak m hp hq
  have tp : rTp (rNx r) = cTp s := t4.symm
  rw [tp] at g1
  by_cases c : cTp s = 0
  · rw [if_pos c] at e1 g1
    obtain ⟨a1, a2⟩ := un_toC (x := gAt (s.a 17) 1024 (cAr s)) t1 ep
    obtain ⟨b1, b2⟩ := un_toR (y := (rNx r).a 22 (r.i 92).toNatClampNeg) a1 (by rw [m.clq]; exact eq)
    rw [e1, g1]
    exact ⟨Or.inl ⟨c, b1⟩, t2.tr a2, t3.tr b2⟩
  · rw [if_neg c] at e1 g1
    obtain ⟨-, -, n3, n4⟩ := m.nx hp hq
    obtain ⟨b1, b2⟩ := un_toR (y := (rNx r).i 92) t1 n4
    rw [e1, g1]
    exact ⟨Or.inr ⟨c, b1⟩, t2, t3.tr b2⟩
/-- what KEEP does -/
theorem xi_kp {N : Nat} {s : CS} {R : Unit × CS} (h : cOp s = 32 ∨ cOp s = 33) (e : f_X3_instruction N s = some R) : R.2 = if (cTp s = 0 ↔ cOp s = 32) then CS.setI (cNx s) 66 (gAt (s.a 17) 1024 (cAr s)) else cPo (cNx s) := by
  have kp : ∀ (v : Int32) (A : Unit × CS), (v = 0 ∨ v = 1) → f_X3_keep N (cNx s) v (cAr s) = some A → A.2 = if (cTp s = 0 ↔ v = 0) then CS.setI (cNx s) 66 (gAt (s.a 17) 1024 (cAr s)) else cPo (cNx s) := fun v A hv q => by
    unfold f_X3_keep f_X3_keep_22 at q
    by_cases c : cTp s = 0
    · have q1 := (if_pos (show cTp (cNx s) = 0 from c)).symm.trans q
      rcases hv with hv | hv
      · rw [if_pos ⟨fun _ => hv, fun _ => c⟩]
        have q2 := (if_pos hv.symm).symm.trans q1
        rw [← Option.some.inj q2]
        rfl
      · rw [if_neg (fun z => absurd (hv.symm.trans (z.mp c)) (by decide))]
        have q2 := (if_neg (show ¬ (0 : Int32) = v by rw [hv]; decide)).symm.trans q1
        have q3 : some ((), cPo (cNx s)) = some A := q2
        rw [← Option.some.inj q3]
    · have q1 := (if_neg (show ¬ cTp (cNx s) = 0 from c)).symm.trans q
      rcases hv with hv | hv
      · rw [if_neg (fun z => c (z.mpr hv))]
        have q2 := (if_neg (show ¬ (1 : Int32) = v by rw [hv]; decide)).symm.trans q1
        have q3 : some ((), cPo (cNx s)) = some A := q2
        rw [← Option.some.inj q3]
      · rw [if_pos ⟨fun z => absurd z c, fun z => absurd (hv.symm.trans z) (by decide)⟩]
        have q2 := (if_pos hv.symm).symm.trans q1
        rw [← Option.some.inj q2]
        rfl
  rcases h with h | h
  · have z := xi_ste (by rw [h]; decide) (by rw [h]; decide) (by rw [h]; decide) e
    rw [h] at z
    unfold f_X3_steer f_X3_steer_102 at z
    rw [if_neg (by decide), if_neg (by decide), if_pos rfl, if_neg (by decide)] at z
    have w := kp 0 R (Or.inl rfl) (ob_un z)
    rw [w, h]
    by_cases c : cTp s = 0
    · rw [if_pos ⟨fun _ => rfl, fun _ => c⟩, if_pos ⟨fun _ => rfl, fun _ => c⟩]
    · rw [if_neg (fun y => c (y.mpr rfl)), if_neg (fun y => c (y.mpr rfl))]
  · have z := xi_ste (by rw [h]; decide) (by rw [h]; decide) (by rw [h]; decide) e
    rw [h] at z
    unfold f_X3_steer f_X3_steer_102 at z
    rw [if_neg (by decide), if_neg (by decide), if_neg (by decide), if_pos rfl] at z
    have w := kp 1 R (Or.inr rfl) (ob_un z)
    rw [w, h]
    by_cases c : cTp s = 0
    · rw [if_neg (fun y => absurd (y.mp c) (by decide)), if_neg (fun y => absurd (y.mp c) (by decide))]
    · rw [if_pos ⟨fun y => absurd y c, fun y => absurd y (by decide)⟩, if_pos ⟨fun y => absurd y c, fun y => absurd y (by decide)⟩]
/-- KEEP, KEEP -/
theorem un_keep {N : Nat} {nm : Nat → Nat → Prop} {s : CS} {r V : RS} {R : Unit × CS} {h p q p' q' : Nat} (m : MCO nm s r (h + 1) p q) (hp : p < 2000) (hq : q < 4000) (o : (cOp s = 32 ∧ r.a 21 q = 12) ∨ (cOp s = 33 ∧ r.a 21 q = 11)) (ep : (cTg s (cAr s)).toInt = (p' : Int)) (eq : (r.a 22 q).toInt = (q' : Int)) (e : f_X3_instruction N s = some R) (g : f_X12_act N (rNx r) (r.i 92) = some V) : (MCO nm R.2 V (h + 1) p' q' ∨ MCO nm R.2 V h (p + 1) (q + 1)) ∧ EXC nm s R.2 ∧ EXV nm r V := by
  obtain ⟨t1, t2, t3, t4⟩ := un_tak m hp hq
  obtain ⟨u1, u2, u3⟩ := un_nx m hp hq
  have tp : rTp (rNx r) = cTp s := t4.symm
  have jmp : R.2 = CS.setI (cNx s) 66 (gAt (s.a 17) 1024 (cAr s)) → V = RS.setI (rNx r) 92 ((rNx r).a 22 (r.i 92).toNatClampNeg) → (MCO nm R.2 V (h + 1) p' q' ∨ MCO nm R.2 V h (p + 1) (q + 1)) ∧ EXC nm s R.2 ∧ EXV nm r V := fun q1 q2 => by
    obtain ⟨a1, a2⟩ := un_toC (x := gAt (s.a 17) 1024 (cAr s)) u1 ep
    obtain ⟨b1, b2⟩ := un_toR (y := (rNx r).a 22 (r.i 92).toNatClampNeg) a1 (by rw [m.clq]; exact eq)
    rw [q1, q2]
    exact ⟨Or.inl b1, u2.tr a2, u3.tr b2⟩
  have pop : R.2 = cPo (cNx s) → V = rPo (rNx r) → (MCO nm R.2 V (h + 1) p' q' ∨ MCO nm R.2 V h (p + 1) (q + 1)) ∧ EXC nm s R.2 ∧ EXV nm r V := fun q1 q2 => by
    rw [q1, q2]
    exact ⟨Or.inr t1, t2, t3⟩
  rcases o with ⟨o1, o2⟩ | ⟨o1, o2⟩
  · have e1 := xi_kp (Or.inl o1) e
    have g1 := xa_12 (r := rNx r) (by rw [m.clq]; exact o2) g
    rw [tp] at g1
    rw [o1] at e1
    by_cases c : cTp s = 0
    · rw [if_pos ⟨fun _ => rfl, fun _ => c⟩] at e1
      rw [if_pos c] at g1
      exact jmp e1 g1
    · rw [if_neg (fun y => c (y.mpr rfl))] at e1
      rw [if_neg c] at g1
      exact pop e1 g1
  · have e1 := xi_kp (Or.inr o1) e
    have g1 := xa_11 (r := rNx r) (by rw [m.clq]; exact o2) g
    rw [tp] at g1
    rw [o1] at e1
    by_cases c : cTp s = 0
    · rw [if_neg (fun y => absurd (y.mp c) (by decide))] at e1
      rw [if_pos c] at g1
      exact pop e1 g1
    · rw [if_pos ⟨fun y => absurd y c, fun y => absurd y (by decide)⟩] at e1
      rw [if_neg c] at g1
      exact jmp e1 g1
/-- LOG, OUT -/
theorem un_out {N : Nat} {nm : Nat → Nat → Prop} {s : CS} {r V : RS} {R : Unit × CS} {h p q : Nat} (m : MCO nm s r (h + 1) p q) (hp : p < 2000) (hq : q < 4000) (o1 : cOp s = 52) (o2 : r.a 21 q = 16) (e : f_X3_instruction N s = some R) (g : f_X12_act N (rNx r) (r.i 92) = some V) : MCO nm R.2 V h (p + 1) (q + 1) ∧ EXC nm s R.2 ∧ EXV nm r V := by
  have e1 := xi_52 o1 e
  have g1 := xa_16 (r := rNx r) (by rw [m.clq]; exact o2) g
  obtain ⟨t1, t2, t3, t4⟩ := un_tak m hp hq
  have tp : rTp (rNx r) = cTp s := t4.symm
  rw [tp] at g1
  obtain ⟨n1, n2, n3, ⟨n4, n5, n6, n7, n8⟩, n9, n10⟩ := t1.2.2.1.note e1 g1
  have ec : EXC nm (cPo (cNx s)) R.2 := ⟨fun j _ _ h3 _ => n2 j h3, fun k _ _ h3 => n3 k h3, ⟨n4, n5, n6, n7, n8⟩, fun k _ => congrFun (n3 59 (by decide)) k⟩
  have er : EXV nm (rPo (rNx r)) V := ⟨fun j _ h2 _ _ => n9 j h2, fun k h1 h2 _ _ => n10 k h1 h2, fun l _ => congrFun (n10 84 (by decide) (by decide)) l, le_80 (n9 80 (by decide))⟩
  exact ⟨un_vs t1 (t1.2.1.of (n2 65 (by decide)) (n3 60 (by decide)) (n9 93 (by decide)) (n10 94 (by decide) (by decide))) ec er (n3 59 (by decide)) (n10 84 (by decide) (by decide)) (n2 66 (by decide)) (n9 92 (by decide)) n1, t2.tr ec, t3.tr er⟩
/-- STEP -/
theorem un_step {N : Nat} {nm : Nat → Nat → Prop} {s : CS} {r V : RS} {R : Unit × CS} {h p q : Nat} (m : MCO nm s r h p q) (hp : p < 2000) (hq : q < 4000) (o1 : cOp s = 51) (o2 : r.a 21 q = 1) (e : f_X3_instruction N s = some R) (g : f_X12_act N (rNx r) (r.i 92) = some V) : (R.2 = CS.setI (cNx s) 72 3 ∧ V = RS.setI (RS.setI (rNx r) 115 5) 92 (-1)) ∨ ((MCO nm R.2 V h (p + 1) (q + 1) ∧ EXC nm s R.2 ∧ EXV nm r V) ∧ (V.i 80).toInt = (r.i 80).toInt + 1) := by
  have e1 := xi_51 o1 e
  have g1 := xa_1 (r := rNx r) (by rw [m.clq]; exact o2) g
  obtain ⟨t1, t2, t3⟩ := un_nx m hp hq
  rcases t1.2.2.1.step e1 g1 with z | ⟨⟨z1, z2⟩, z3, z4⟩
  · exact Or.inl z
  · right
    have ec : EXC nm (cNx s) R.2 := by
      rw [z1]
      exact ⟨fun j _ _ _ h4 => ci_ne _ _ _ h4, fun _ _ _ _ => rfl, ⟨rfl, rfl, rfl, rfl, rfl⟩, fun _ _ => rfl⟩
    have z6 : ((rNx r).i 80).toInt ≤ (V.i 80).toInt := by omega
    have er : EXV nm (rNx r) V := by
      rw [z2] at z6 ⊢
      exact ⟨fun j h1 _ _ _ => ri_ne h1, fun _ _ _ _ _ => rfl, fun _ _ => rfl, z6⟩
    have i65 : R.2.i 65 = (cNx s).i 65 := by rw [z1, ci_ne _ _ _ (by decide)]
    have i66 : R.2.i 66 = (cNx s).i 66 := by rw [z1, ci_ne _ _ _ (by decide)]
    have a0 : R.2.a = (cNx s).a := by rw [z1]; rfl
    have j93 : V.i 93 = (rNx r).i 93 := by rw [z2, ri_ne (by decide)]
    have j92 : V.i 92 = (rNx r).i 92 := by rw [z2, ri_ne (by decide)]
    have b0 : V.a = (rNx r).a := by rw [z2]; rfl
    refine ⟨⟨un_vs t1 (t1.2.1.of i65 (by rw [a0]) j93 (by rw [b0])) ec er (by rw [a0]) (by rw [b0]) i66 j92 z3, t2.tr ec, t3.tr er⟩, ?_⟩
    rw [z4]
    have z5 : (rNx r).i 80 = r.i 80 := rNx_i (by decide)
    rw [z5]
