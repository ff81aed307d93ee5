/-! both machines: stores, arithmetic, comparisons, jumps, log, step -/
/-- a name gets a value -/
theorem un_set {nm : Nat → Nat → Prop} (nn : NMP nm) {s : CS} {r : RS} {h p q c0 l0 : Nat} (m : MCO nm s r h p q) (hc : nm c0 l0) (v : Int32) : MCO nm (CS.putA s 59 (upd (s.a 59) c0 v)) (RS.setA r 84 l0 v) h p q ∧ EXC nm s (CS.putA s 59 (upd (s.a 59) c0 v)) ∧ EXV nm r (RS.setA r 84 l0 v) := by
  obtain ⟨m1, m2, m3, m4⟩ := m
  have ka : ∀ k : Nat, k ≠ 59 → (CS.putA s 59 (upd (s.a 59) c0 v)).a k = s.a k := fun k hk => if_neg hk
  refine ⟨⟨m1, m2.of rfl (ka 60 (by decide)) rfl (setA_nk (by decide)), m3.of rfl rfl (ka 64 (by decide)) rfl rfl (setA_nk (by decide)) (setA_nk (by decide)), fun c l hn => ?_⟩, ⟨fun _ _ _ _ _ => rfl, fun k h1 _ _ => ka k h1, ⟨rfl, rfl, rfl, rfl, rfl⟩, fun k hk => (if_neg (fun z : k = c0 => hk l0 (by rw [z]; exact hc)) : upd (s.a 59) c0 v k = s.a 59 k)⟩, ⟨fun _ _ _ _ _ => rfl, fun k _ _ h3 _ => setA_nk h3, fun l hl => setA_ne (fun z => hl c0 (by rw [z]; exact hc)), Int.le_refl _⟩⟩
  have i := nn.2 c l c0 l0 hn hc
  show upd (s.a 59) c0 v c = (RS.setA r 84 l0 v).a 84 l
  by_cases e : c = c0
  · rw [i.mp e, setA_at]
    exact if_pos e
  · rw [setA_ne (fun z => e (i.mpr z))]
    exact (if_neg e).trans (m4 c l hn)
/-- STORE -/
theorem un_stor {N : Nat} {nm : Nat → Nat → Prop} {s : CS} {r V : RS} {R : Unit × CS} {h p q c l : Nat} (nn : NMP nm) (m : MCO nm s r (h + 1) p q) (hp : p < 2000) (hq : q < 4000) (o1 : cOp s = 2) (o2 : r.a 21 q = 5) (ec : (cAr s).toInt = (c : Int)) (el : (r.a 22 q).toInt = (l : Int)) (hc : nm c l) (e : f_X3_instruction N s = some R) (g : f_X12_act N (rNx r) (r.i 92) = some V) : MCO nm R.2 V h (p + 1) (q + 1) ∧ EXC nm s R.2 ∧ EXV nm r V := by
  have e1 := xi_2 o1 e
  have g1 := xa_5 (r := rNx r) (by rw [m.clq]; exact o2) g
  obtain ⟨c7, -⟩ := nn.1 c l hc
  obtain ⟨t1, t2, t3, t4⟩ := un_tak m hp hq
  have z1 : gPut (s.a 59) 720 (cAr s) (cTp s) = upd ((cPo (cNx s)).a 59) c (cTp s) := by
    unfold gPut
    rw [if_pos ⟨by omega, by omega⟩, cl_nat ec]
    rfl
  have z2 : ((rNx r).a 22 (r.i 92).toNatClampNeg).toNatClampNeg = l := by
    rw [m.clq]
    exact cl_nat el
  have z3 : rTp (rNx r) = cTp s := t4.symm
  rw [z1] at e1
  rw [z2, z3] at g1
  rw [e1, g1]
  obtain ⟨w1, w2, w3⟩ := un_set nn t1 hc (cTp s)
  exact ⟨w1, t2.tr w2, t3.tr w3⟩
/-- both one place on -/
theorem un_nx {nm : Nat → Nat → Prop} {s : CS} {r : RS} {h p q : Nat} (m : MCO nm s r h p q) (hp : p < 2000) (hq : q < 4000) : MCO nm (cNx s) (rNx r) h (p + 1) (q + 1) ∧ EXC nm s (cNx s) ∧ EXV nm r (rNx r) := by
  obtain ⟨n1, n2, n3, n4⟩ := m.nx hp hq
  obtain ⟨⟨⟨m1, m2⟩, -, -⟩, -, -, m5⟩ := m
  exact ⟨⟨⟨⟨(cNx_i (by decide)).trans m1, (cNx_i (by decide)).trans m2⟩, n3, n4⟩, n1, n2, m5⟩, ⟨fun j _ h2 _ _ => cNx_i h2, fun _ _ _ _ => rfl, ⟨rfl, rfl, rfl, rfl, rfl⟩, fun _ _ => rfl⟩, ⟨fun j _ _ h3 _ => rNx_i h3, fun _ _ _ _ _ => rfl, fun _ _ => rfl, le_80 (rNx_i (by decide))⟩⟩
/-- INCREASE -/
theorem un_inc {N : Nat} {nm : Nat → Nat → Prop} {s : CS} {r V : RS} {R : Unit × CS} {h p q c l : Nat} (nn : NMP nm) (m : MCO nm s r h p q) (hp : p < 2000) (hq : q < 4000) (o1 : cOp s = 3) (o2 : r.a 21 q = 6) (ec : (cAr s).toInt = (c : Int)) (el : (r.a 22 q).toInt = (l : Int)) (hc : nm c l) (e : f_X3_instruction N s = some R) (g : f_X12_act N (rNx r) (r.i 92) = some V) : MCO nm R.2 V h (p + 1) (q + 1) ∧ EXC nm s R.2 ∧ EXV nm r V := by
  have e1 := xi_3 o1 e
  have g1 := xa_6 (r := rNx r) (by rw [m.clq]; exact o2) g
  obtain ⟨c7, -⟩ := nn.1 c l hc
  obtain ⟨t1, t2, t3⟩ := un_nx m hp hq
  have z0 : gAt (s.a 59) 720 (cAr s) = s.a 59 c := by
    unfold gAt
    rw [if_pos ⟨by omega, by omega⟩, cl_nat ec]
  have z1 : gPut (s.a 59) 720 (cAr s) (s.a 59 c + 1) = upd ((cNx s).a 59) c (s.a 59 c + 1) := by
    unfold gPut
    rw [if_pos ⟨by omega, by omega⟩, cl_nat ec]
    rfl
  have z2 : ((rNx r).a 22 (r.i 92).toNatClampNeg).toNatClampNeg = l := by
    rw [m.clq]
    exact cl_nat el
  have z3 : (rNx r).a 84 l = s.a 59 c := (m.2.2.2 c l hc).symm
  rw [z0, z1] at e1
  rw [z2, z3] at g1
  rw [e1, g1]
  obtain ⟨w1, w2, w3⟩ := un_set nn t1 hc (s.a 59 c + 1)
  exact ⟨w1, t2.tr w2, t3.tr w3⟩
/-- two values give one -/
theorem un_bin {nm : Nat → Nat → Prop} {s : CS} {r : RS} {h p q : Nat} (m : MCO nm s r (h + 1 + 1) p q) (hp : p < 2000) (hq : q < 4000) (v : Int32) : MCO nm (cPu (cPo (cPo (cNx s))) v) (rPu (rPo (rPo (rNx r))) v) (h + 1) (p + 1) (q + 1) ∧ EXC nm s (cPu (cPo (cPo (cNx s))) v) ∧ EXV nm r (rPu (rPo (rPo (rNx r))) v) := by
  obtain ⟨t1, t2, t3, -⟩ := un_tak m hp hq
  have h6 := m.2.1.1.2.2
  have v2 := t1.2.1.pop
  have a1 : EXC nm (cPo (cNx s)) (cPu (cPo (cPo (cNx s))) v) := ⟨fun j h1 h2 h3 h4 => (cPu_i h1).trans (cPo_i h1), fun k h1 h2 h3 => cPu_a h2, ⟨rfl, rfl, rfl, rfl, rfl⟩, fun k _ => congrFun (cPu_a (by decide)) k⟩
  have a2 : EXV nm (rPo (rNx r)) (rPu (rPo (rPo (rNx r))) v) := ⟨fun j h1 h2 h3 h4 => (rPu_i h4).trans (rPo_i h4), fun k h1 h2 h3 h4 => rPu_a h4, fun l _ => congrFun (rPu_a (by decide)) l, le_80 ((rPu_i (by decide)).trans (rPo_i (by decide)))⟩
  refine ⟨un_vs t1 (MVS.push (s := cPo (cPo (cNx s))) (r := rPo (rPo (rNx r))) v2 (by omega) v) a1 a2 (cPu_a (by decide)) (rPu_a (by decide)) ((cPu_i (by decide)).trans (cPo_i (by decide))) ((rPu_i (by decide)).trans (rPo_i (by decide))) (t1.2.2.1.of ((cPu_i (by decide)).trans (cPo_i (by decide))) ((cPu_i (by decide)).trans (cPo_i (by decide))) (cPu_a (by decide)) ((rPu_i (by decide)).trans (rPo_i (by decide))) ((rPu_i (by decide)).trans (rPo_i (by decide))) (rPu_a (by decide)) (rPu_a (by decide))), t2.tr a1, t3.tr a2⟩
theorem un_tp2 {nm : Nat → Nat → Prop} {s : CS} {r : RS} {h p q : Nat} (m : MCO nm s r (h + 1 + 1) p q) (hp : p < 2000) (hq : q < 4000) : cTp s = rTp r ∧ cTp (cPo s) = rTp (rPo r) := by
  obtain ⟨t1, t2, t3, t4⟩ := un_tak m hp hq
  exact ⟨t4, t1.2.1.top.1⟩
theorem e_cmp {N : Nat} {r : RS} {o x y : Int32} {W : Int32 × RS} (g : f_X12_compute N r o x y = some W) (n1 : ¬ o = 37) (n2 : ¬ o = 47) : W = (if o = 42 then x * y else if o = 43 then x + y else if o = 45 then x - y else if o = 60 then (if y ≤ x then 0 else 1) else if o = 62 then (if x ≤ y then 0 else 1) else if o = 300 then (if y < x then 0 else 1) else if o = 301 then (if x < y then 0 else 1) else if o = 302 then (if x = y then 1 else 0) else (if x = y then 0 else 1), r) := by
  unfold f_X12_compute at g
  rw [if_neg n1] at g
  by_cases c1 : o = 42
  · rw [if_pos c1] at g ⊢
    exact (Option.some.inj g).symm
  rw [if_neg c1] at g ⊢
  by_cases c2 : o = 43
  · rw [if_pos c2] at g ⊢
    exact (Option.some.inj g).symm
  rw [if_neg c2] at g ⊢
  by_cases c3 : o = 45
  · rw [if_pos c3] at g ⊢
    exact (Option.some.inj g).symm
  rw [if_neg c3] at g ⊢
  rw [if_neg n2] at g
  by_cases d60 : o = 60
  · rw [if_pos d60] at g ⊢
    by_cases c : y ≤ x
    · rw [if_pos c] at g ⊢
      exact (Option.some.inj g).symm
    · rw [if_neg c] at g ⊢
      exact (Option.some.inj g).symm
  rw [if_neg d60] at g ⊢
  by_cases d62 : o = 62
  · rw [if_pos d62] at g ⊢
    by_cases c : x ≤ y
    · rw [if_pos c] at g ⊢
      exact (Option.some.inj g).symm
    · rw [if_neg c] at g ⊢
      exact (Option.some.inj g).symm
  rw [if_neg d62] at g ⊢
  by_cases d300 : o = 300
  · rw [if_pos d300] at g ⊢
    by_cases c : y < x
    · rw [if_pos c] at g ⊢
      exact (Option.some.inj g).symm
    · rw [if_neg c] at g ⊢
      exact (Option.some.inj g).symm
  rw [if_neg d300] at g ⊢
  by_cases d301 : o = 301
  · rw [if_pos d301] at g ⊢
    by_cases c : x < y
    · rw [if_pos c] at g ⊢
      exact (Option.some.inj g).symm
    · rw [if_neg c] at g ⊢
      exact (Option.some.inj g).symm
  rw [if_neg d301] at g ⊢
  by_cases d302 : o = 302
  · rw [if_pos d302] at g ⊢
    by_cases c : x = y
    · rw [if_pos c] at g ⊢
      exact (Option.some.inj g).symm
    · rw [if_neg c] at g ⊢
      exact (Option.some.inj g).symm
  rw [if_neg d302] at g ⊢
  by_cases c : x = y
  · rw [if_pos c] at g ⊢
    exact (Option.some.inj g).symm
  · rw [if_neg c] at g ⊢
    exact (Option.some.inj g).symm
/-- the reference: OP, REL but for / and % -/
theorem xa_89 {N : Nat} {r V : RS} {x : Int32} (h : r.a 21 x.toNatClampNeg = 8 ∨ r.a 21 x.toNatClampNeg = 9) (n1 : ¬ r.a 22 x.toNatClampNeg = 37) (n2 : ¬ r.a 22 x.toNatClampNeg = 47) (g : f_X12_act N r x = some V) : ∃ w : Int32, f_X12_compute N (rPo (rPo r)) (r.a 22 x.toNatClampNeg) (rTp (rPo r)) (rTp r) = some (w, rPo (rPo r)) ∧ V = rPu (rPo (rPo r)) w := by
  unfold f_X12_act at g
  obtain ⟨-, g⟩ := hf_ite g
  have go : ((f_X12_take N r).bind fun p29 => (f_X12_take N p29.2).bind fun p31 => (if (r.a 22 x.toNatClampNeg) = 47 then f_X12_act_212 N p31.2 (r.a 22 x.toNatClampNeg) p29.1 p31.1 else (if (r.a 22 x.toNatClampNeg) = 37 then f_X12_act_212 N p31.2 (r.a 22 x.toNatClampNeg) p29.1 p31.1 else f_X12_act_229 N p31.2 (r.a 22 x.toNatClampNeg) p29.1 p31.1))) = some V := by
    rcases h with h | h
    · rw [h] at g
      rw [if_neg (by decide), if_neg (by decide), if_neg (by decide), if_neg (by decide), if_neg (by decide), if_neg (by decide), if_neg (by decide), if_pos rfl] at g
      exact g
    · rw [h] at g
      rw [if_neg (by decide), if_neg (by decide), if_neg (by decide), if_neg (by decide), if_neg (by decide), if_neg (by decide), if_neg (by decide), if_neg (by decide), if_pos rfl] at g
      exact g
  obtain ⟨a, ga, go⟩ := hf_bind go
  obtain ⟨b, gb, go⟩ := hf_bind go
  rw [e_rPo ga] at gb go
  have eb : b = (rTp (rPo r), rPo (rPo r)) := e_rPo gb
  rw [eb, if_neg n2, if_neg n1] at go
  unfold f_X12_act_229 at go
  obtain ⟨w, gw, go⟩ := hf_bind go
  rw [ob_id] at go
  have ew := e_cmp gw n1 n2
  have e2 : w.2 = rPo (rPo r) := by rw [ew]
  have e3 : w = (w.1, rPo (rPo r)) := by rw [← e2]
  refine ⟨w.1, ?_, ?_⟩
  · rw [← e3]
    exact gw
  · rw [e2] at go
    exact e_rPu go
theorem xi_12 {N : Nat} {s : CS} {R : Unit × CS} (h : cOp s = 12) (e : f_X3_instruction N s = some R) : R.2 = cPu (cPo (cPo (cNx s))) (if cTp s ≤ cTp (cPo s) then 0 else 1) := by
  have z := xi_com (by rw [h]; decide) (by rw [h]; decide) e
  rw [h] at z
  unfold f_X3_combine at z
  rw [e_cPo, ob_some, e_cPo, ob_some, if_neg (by decide)] at z
  unfold f_X3_compares at z
  rw [if_pos rfl] at z
  by_cases c : cTp s ≤ cTp (cPo s)
  · rw [if_pos c]
    rw [if_pos (show cTp (cNx s) ≤ cTp (cPo (cNx s)) from c), ob_some] at z
    have z2 : some ((), cPu (cPo (cPo (cNx s))) 0) = some R := (if_pos rfl).symm.trans z
    rw [← Option.some.inj z2]
  · rw [if_neg c]
    rw [if_neg (show ¬ (cTp (cNx s) ≤ cTp (cPo (cNx s))) from c), ob_some] at z
    have z2 : some ((), cPu (cPo (cPo (cNx s))) 1) = some R := (if_neg n10).symm.trans z
    rw [← Option.some.inj z2]
theorem xi_13 {N : Nat} {s : CS} {R : Unit × CS} (h : cOp s = 13) (e : f_X3_instruction N s = some R) : R.2 = cPu (cPo (cPo (cNx s))) (if cTp s < cTp (cPo s) then 0 else 1) := by
  have z := xi_com (by rw [h]; decide) (by rw [h]; decide) e
  rw [h] at z
  unfold f_X3_combine at z
  rw [e_cPo, ob_some, e_cPo, ob_some, if_neg (by decide)] at z
  unfold f_X3_compares at z
  rw [if_neg (by decide), if_pos rfl] at z
  by_cases c : cTp s < cTp (cPo s)
  · rw [if_pos c]
    rw [if_pos (show cTp (cNx s) < cTp (cPo (cNx s)) from c), ob_some] at z
    have z2 : some ((), cPu (cPo (cPo (cNx s))) 0) = some R := (if_pos rfl).symm.trans z
    rw [← Option.some.inj z2]
  · rw [if_neg c]
    rw [if_neg (show ¬ (cTp (cNx s) < cTp (cPo (cNx s))) from c), ob_some] at z
    have z2 : some ((), cPu (cPo (cPo (cNx s))) 1) = some R := (if_neg n10).symm.trans z
    rw [← Option.some.inj z2]
theorem xi_14 {N : Nat} {s : CS} {R : Unit × CS} (h : cOp s = 14) (e : f_X3_instruction N s = some R) : R.2 = cPu (cPo (cPo (cNx s))) (if cTp (cPo s) ≤ cTp s then 0 else 1) := by
  have z := xi_com (by rw [h]; decide) (by rw [h]; decide) e
  rw [h] at z
  unfold f_X3_combine at z
  rw [e_cPo, ob_some, e_cPo, ob_some, if_neg (by decide)] at z
  unfold f_X3_compares at z
  rw [if_neg (by decide), if_neg (by decide), if_pos rfl] at z
  by_cases c : cTp (cPo s) ≤ cTp s
  · rw [if_pos c]
    rw [if_pos (show cTp (cPo (cNx s)) ≤ cTp (cNx s) from c), ob_some] at z
    have z2 : some ((), cPu (cPo (cPo (cNx s))) 0) = some R := (if_pos rfl).symm.trans z
    rw [← Option.some.inj z2]
  · rw [if_neg c]
    rw [if_neg (show ¬ (cTp (cPo (cNx s)) ≤ cTp (cNx s)) from c), ob_some] at z
    have z2 : some ((), cPu (cPo (cPo (cNx s))) 1) = some R := (if_neg n10).symm.trans z
    rw [← Option.some.inj z2]
theorem xi_15 {N : Nat} {s : CS} {R : Unit × CS} (h : cOp s = 15) (e : f_X3_instruction N s = some R) : R.2 = cPu (cPo (cPo (cNx s))) (if cTp (cPo s) < cTp s then 0 else 1) := by
  have z := xi_com (by rw [h]; decide) (by rw [h]; decide) e
  rw [h] at z
  unfold f_X3_combine at z
  rw [e_cPo, ob_some, e_cPo, ob_some, if_neg (by decide)] at z
  unfold f_X3_compares at z
  rw [if_neg (by decide), if_neg (by decide), if_neg (by decide), if_pos rfl] at z
  by_cases c : cTp (cPo s) < cTp s
  · rw [if_pos c]
    rw [if_pos (show cTp (cPo (cNx s)) < cTp (cNx s) from c), ob_some] at z
    have z2 : some ((), cPu (cPo (cPo (cNx s))) 0) = some R := (if_pos rfl).symm.trans z
    rw [← Option.some.inj z2]
  · rw [if_neg c]
    rw [if_neg (show ¬ (cTp (cPo (cNx s)) < cTp (cNx s)) from c), ob_some] at z
    have z2 : some ((), cPu (cPo (cPo (cNx s))) 1) = some R := (if_neg n10).symm.trans z
    rw [← Option.some.inj z2]
theorem xi_16 {N : Nat} {s : CS} {R : Unit × CS} (h : cOp s = 16) (e : f_X3_instruction N s = some R) : R.2 = cPu (cPo (cPo (cNx s))) (if cTp (cPo s) = cTp s then 1 else 0) := by
  have z := xi_com (by rw [h]; decide) (by rw [h]; decide) e
  rw [h] at z
  unfold f_X3_combine at z
  rw [e_cPo, ob_some, e_cPo, ob_some, if_neg (by decide)] at z
  unfold f_X3_compares at z
  rw [if_neg (by decide), if_neg (by decide), if_neg (by decide), if_neg (by decide), if_pos rfl] at z
  by_cases c : cTp (cPo s) = cTp s
  · rw [if_pos c]
    rw [if_pos (show cTp (cPo (cNx s)) = cTp (cNx s) from c), ob_some] at z
    have z2 : some ((), cPu (cPo (cPo (cNx s))) 1) = some R := (if_neg n10).symm.trans z
    rw [← Option.some.inj z2]
  · rw [if_neg c]
    rw [if_neg (show ¬ (cTp (cPo (cNx s)) = cTp (cNx s)) from c), ob_some] at z
    have z2 : some ((), cPu (cPo (cPo (cNx s))) 0) = some R := (if_pos rfl).symm.trans z
    rw [← Option.some.inj z2]
theorem xi_17 {N : Nat} {s : CS} {R : Unit × CS} (h : cOp s = 17) (e : f_X3_instruction N s = some R) : R.2 = cPu (cPo (cPo (cNx s))) (if cTp (cPo s) = cTp s then 0 else 1) := by
  have z := xi_com (by rw [h]; decide) (by rw [h]; decide) e
  rw [h] at z
  unfold f_X3_combine at z
  rw [e_cPo, ob_some, e_cPo, ob_some, if_neg (by decide)] at z
  unfold f_X3_compares at z
  rw [if_neg (by decide), if_neg (by decide), if_neg (by decide), if_neg (by decide), if_neg (by decide)] at z
  by_cases c : cTp (cPo s) = cTp s
  · rw [if_pos c]
    rw [if_pos (show cTp (cPo (cNx s)) = cTp (cNx s) from c), ob_some] at z
    have z2 : some ((), cPu (cPo (cPo (cNx s))) 0) = some R := (if_pos rfl).symm.trans z
    rw [← Option.some.inj z2]
  · rw [if_neg c]
    rw [if_neg (show ¬ (cTp (cPo (cNx s)) = cTp (cNx s)) from c), ob_some] at z
    have z2 : some ((), cPu (cPo (cPo (cNx s))) 1) = some R := (if_neg n10).symm.trans z
    rw [← Option.some.inj z2]
/-- arithmetic but for / and %, comparisons -/
theorem un_ari {N : Nat} {nm : Nat → Nat → Prop} {s : CS} {r V : RS} {R : Unit × CS} {h p q : Nat} (m : MCO nm s r (h + 1 + 1) p q) (hp : p < 2000) (hq : q < 4000) (o : (cOp s = 7 ∧ r.a 21 q = 8 ∧ r.a 22 q = 43) ∨ (cOp s = 8 ∧ r.a 21 q = 8 ∧ r.a 22 q = 45) ∨ (cOp s = 9 ∧ r.a 21 q = 8 ∧ r.a 22 q = 42) ∨ (cOp s = 12 ∧ r.a 21 q = 9 ∧ r.a 22 q = 60) ∨ (cOp s = 13 ∧ r.a 21 q = 9 ∧ r.a 22 q = 300) ∨ (cOp s = 14 ∧ r.a 21 q = 9 ∧ r.a 22 q = 62) ∨ (cOp s = 15 ∧ r.a 21 q = 9 ∧ r.a 22 q = 301) ∨ (cOp s = 16 ∧ r.a 21 q = 9 ∧ r.a 22 q = 302) ∨ (cOp s = 17 ∧ r.a 21 q = 9 ∧ r.a 22 q = 303)) (e : f_X3_instruction N s = some R) (g : f_X12_act N (rNx r) (r.i 92) = some V) : MCO nm R.2 V (h + 1) (p + 1) (q + 1) ∧ EXC nm s R.2 ∧ EXV nm r V := by
  obtain ⟨t1, t2⟩ := un_tp2 m hp hq
  have key : ∀ v : Int32, R.2 = cPu (cPo (cPo (cNx s))) v → V = rPu (rPo (rPo (rNx r))) v → MCO nm R.2 V (h + 1) (p + 1) (q + 1) ∧ EXC nm s R.2 ∧ EXV nm r V := fun v q1 q2 => by
    rw [q1, q2]
    exact un_bin m hp hq v
  have ref : ∀ (a b : Int32), (a = 8 ∨ a = 9) → ¬ b = 37 → ¬ b = 47 → r.a 21 q = a → r.a 22 q = b → ∃ w : Int32, f_X12_compute N (rPo (rPo (rNx r))) b (cTp (cPo s)) (cTp s) = some (w, rPo (rPo (rNx r))) ∧ V = rPu (rPo (rPo (rNx r))) w := fun a b ha n1 n2 q1 q2 => by
    have z1 : (rNx r).a 21 (r.i 92).toNatClampNeg = a := by rw [m.clq]; exact q1
    have z2 : (rNx r).a 22 (r.i 92).toNatClampNeg = b := by rw [m.clq]; exact q2
    obtain ⟨w, w1, w2⟩ := xa_89 (r := rNx r) (by rw [z1]; exact ha) (by rw [z2]; exact n1) (by rw [z2]; exact n2) g
    rw [z2] at w1
    have y1 : rTp (rNx r) = cTp s := t1.symm
    have y2 : rTp (rPo (rNx r)) = cTp (cPo s) := t2.symm
    rw [y1, y2] at w1
    exact ⟨w, w1, w2⟩
  rcases o with ⟨o1, o2, o3⟩ | ⟨o1, o2, o3⟩ | ⟨o1, o2, o3⟩ | ⟨o1, o2, o3⟩ | ⟨o1, o2, o3⟩ | ⟨o1, o2, o3⟩ | ⟨o1, o2, o3⟩ | ⟨o1, o2, o3⟩ | ⟨o1, o2, o3⟩
  · obtain ⟨w, w1, w2⟩ := ref 8 43 (by decide) (by decide) (by decide) o2 o3
    have ew := congrArg Prod.fst (e_cmp w1 (by decide) (by decide))
    refine key w ?_ w2
    rw [xi_7 o1 e]
    exact congrArg _ ew.symm
  · obtain ⟨w, w1, w2⟩ := ref 8 45 (by decide) (by decide) (by decide) o2 o3
    have ew := congrArg Prod.fst (e_cmp w1 (by decide) (by decide))
    refine key w ?_ w2
    rw [xi_8 o1 e]
    exact congrArg _ ew.symm
  · obtain ⟨w, w1, w2⟩ := ref 8 42 (by decide) (by decide) (by decide) o2 o3
    have ew := congrArg Prod.fst (e_cmp w1 (by decide) (by decide))
    refine key w ?_ w2
    rw [xi_9 o1 e]
    exact congrArg _ ew.symm
  · obtain ⟨w, w1, w2⟩ := ref 9 60 (by decide) (by decide) (by decide) o2 o3
    have ew := congrArg Prod.fst (e_cmp w1 (by decide) (by decide))
    refine key w ?_ w2
    rw [xi_12 o1 e]
    exact congrArg _ ew.symm
  · obtain ⟨w, w1, w2⟩ := ref 9 300 (by decide) (by decide) (by decide) o2 o3
    have ew := congrArg Prod.fst (e_cmp w1 (by decide) (by decide))
    refine key w ?_ w2
    rw [xi_13 o1 e]
    exact congrArg _ ew.symm
  · obtain ⟨w, w1, w2⟩ := ref 9 62 (by decide) (by decide) (by decide) o2 o3
    have ew := congrArg Prod.fst (e_cmp w1 (by decide) (by decide))
    refine key w ?_ w2
    rw [xi_14 o1 e]
    exact congrArg _ ew.symm
  · obtain ⟨w, w1, w2⟩ := ref 9 301 (by decide) (by decide) (by decide) o2 o3
    have ew := congrArg Prod.fst (e_cmp w1 (by decide) (by decide))
    refine key w ?_ w2
    rw [xi_15 o1 e]
    exact congrArg _ ew.symm
  · obtain ⟨w, w1, w2⟩ := ref 9 302 (by decide) (by decide) (by decide) o2 o3
    have ew := congrArg Prod.fst (e_cmp w1 (by decide) (by decide))
    refine key w ?_ w2
    rw [xi_16 o1 e]
    exact congrArg _ ew.symm
  · obtain ⟨w, w1, w2⟩ := ref 9 303 (by decide) (by decide) (by decide) o2 o3
    have ew := congrArg Prod.fst (e_cmp w1 (by decide) (by decide))
    refine key w ?_ w2
    rw [xi_17 o1 e]
    exact congrArg _ ew.symm
