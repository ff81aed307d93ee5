/-! both machines: one is thrown -/
theorem ra_c {N H : Nat} (hN : 1000 ≤ N) {s : CS} (hr : REFS s) (hm : ROOM H s) (h0d : 0 ≤ dpI s) (hd : dpI s ≤ 22) {x1 x2 : Int32} {R : Unit × CS} (e : f_X3_raise N s x1 x2 = some R) : ∃ b : Nat, ¬ HELD s b ∧ RSD H s R.2 ∧ R.2.w = some b ∧ (R.2.o b 2 = x1 ∧ R.2.o b 3 = x2 ∧ R.2.o b 4 = 0) ∧ R.2.i 74 = 0 ∧ (∀ x : Nat, x < s.hs → (x ≠ b → R.2.o x = s.o x) ∧ R.2.ot x = s.ot x ∧ R.2.oa x = s.oa x) ∧ ∀ j x : Nat, s.r 62 j = some x → R.2.r 62 j = some x := by
  have hR := ok_at (q_raise hN hr hm h0d hd x1 x2) e
  unfold f_X3_raise at e
  obtain ⟨p, ep, e⟩ := hf_bind e
  obtain ⟨b, eb, nh, ⟨⟨k1, k2, k3, k4⟩, k5, k6⟩⟩ := fr_no hN hr hm N 0 p ep
  rw [eb] at e
  have e' : (if oK p.2 b 2 then if oK p.2 b 2 then if oK p.2 b 2 then ((f_X3_go N (CS.setO (CS.setO (CS.setO (CS.setW p.2 (some b)) b 2 x1) b 3 x2) b 4 0) 4 0 0).bind fun p29 => some ((), p29.2)) else none else none else none) = some R := e
  have e2 := (hf_ite (hf_ite (hf_ite e').2).2).2
  have eR : R.2 = CS.setI (CS.setI (CS.setI (CS.setO (CS.setO (CS.setO (CS.setW p.2 (some b)) b 2 x1) b 3 x2) b 4 0) 73 4) 74 0) 75 0 := by
    rw [← Option.some.inj e2]
  have wo : ∀ x : Nat, x ≠ b → R.2.o x = p.2.o x := fun x hx => by
    rw [eR, co_setI, co_setI, co_setI, setO_ne hx, setO_ne hx, setO_ne hx, co_setW]
  refine ⟨b, nh, hR, ?_, ⟨?_, ?_, ?_⟩, ?_, fun x hx => ⟨fun hb => ?_, ?_, ?_⟩, fun j x h => ?_⟩
  · rw [eR, cw_setI, cw_setI, cw_setI, cw_setO, cw_setO, cw_setO, cw_at]
  · rw [eR, co_setI, co_setI, co_setI, setO_k (by decide), setO_k (by decide), setO_at]
  · rw [eR, co_setI, co_setI, co_setI, setO_k (by decide), setO_at]
  · rw [eR, co_setI, co_setI, co_setI, setO_at]
  · rw [eR, ci_ne _ _ _ (by decide), ci_at]
  · rw [wo x hb]
    exact (k5 x hx).1
  · rw [eR, cot_setI, cot_setI, cot_setI, cot_setO, cot_setO, cot_setO, cot_setW]
    exact (k5 x hx).2.1
  · rw [eR, coa_setI, coa_setI, coa_setI, coa_setO, coa_setO, coa_setO, coa_setW]
    exact (k5 x hx).2.2
  · rw [eR, cr_setI, cr_setI, cr_setI, cr_setO, cr_setO, cr_setO, cr_setW]
    exact k6 j x h
/-- the reference: one is thrown, and there is room -/
theorem ra_r {N : Nat} {r V : RS} {x1 x2 : Int32} (h0 : 0 ≤ (r.i 85).toInt) (h1 : (r.i 85).toInt < 3199) (g : f_X12_raise N r x1 x2 = some V) : (∀ j : Nat, j ≠ 85 → j ≠ 110 → j ≠ 114 → V.i j = r.i j) ∧ (V.i 110 = 3 ∧ V.i 114 = r.i 85 ∧ (V.i 85).toInt = (r.i 85).toInt + 1) ∧ (V.a 86 (r.i 85).toInt.toNat = x1 ∧ V.a 87 (r.i 85).toInt.toNat = x2 ∧ V.a 88 (r.i 85).toInt.toNat = 0) ∧ (∀ k : Nat, k ≠ 86 → k ≠ 87 → k ≠ 88 → V.a k = r.a k) ∧ ∀ k j : Nat, j ≠ (r.i 85).toInt.toNat → V.a k j = r.a k j := by
  have e3 : (3200 : Int32).toInt = 3200 := by decide
  unfold f_X12_raise f_X12_raise_24 at g
  rw [if_neg (Int32.not_le.mpr (by rw [Int32.lt_iff_toInt_lt, e3]; omega))] at g
  have g2 := (hf_ite g).2
  obtain ⟨t, ht⟩ : ∃ t : Nat, t = (r.i 85).toInt.toNat := ⟨_, rfl⟩
  have et : (r.i 85).toNatClampNeg = t := ht.symm
  have eV : V = RS.setI (RS.setA (RS.setA (RS.setA (RS.setI (RS.setI r 114 (r.i 85)) 85 (r.i 85 + 1)) 86 t x1) 87 t x2) 88 t 0) 110 3 := by
    rw [← Option.some.inj g2, ← et]
    rfl
  rw [← ht]
  have ad : (r.i 85 + 1).toInt = (r.i 85).toInt + 1 := ad1 h0 (by omega)
  refine ⟨fun j a b d => ?_, ⟨?_, ?_, ?_⟩, ⟨?_, ?_, ?_⟩, fun k a b d => ?_, fun k j hj => ?_⟩
  · rw [eV, ri_ne b]
    show (RS.setI (RS.setI r 114 (r.i 85)) 85 (r.i 85 + 1)).i j = r.i j
    rw [ri_ne a, ri_ne d]
  · rw [eV, ri_at]
  · rw [eV, ri_ne (by decide)]
    show (RS.setI (RS.setI r 114 (r.i 85)) 85 (r.i 85 + 1)).i 114 = r.i 85
    rw [ri_ne (by decide), ri_at]
  · rw [eV, ri_ne (by decide)]
    show ((RS.setI (RS.setI r 114 (r.i 85)) 85 (r.i 85 + 1)).i 85).toInt = (r.i 85).toInt + 1
    rw [ri_at, ad]
  · rw [eV]
    show (RS.setA (RS.setA (RS.setA (RS.setI (RS.setI r 114 (r.i 85)) 85 (r.i 85 + 1)) 86 t x1) 87 t x2) 88 t 0).a 86 t = x1
    rw [setA_nk (by decide), setA_nk (by decide), setA_at]
  · rw [eV]
    show (RS.setA (RS.setA (RS.setA (RS.setI (RS.setI r 114 (r.i 85)) 85 (r.i 85 + 1)) 86 t x1) 87 t x2) 88 t 0).a 87 t = x2
    rw [setA_nk (by decide), setA_at]
  · rw [eV]
    show (RS.setA (RS.setA (RS.setA (RS.setI (RS.setI r 114 (r.i 85)) 85 (r.i 85 + 1)) 86 t x1) 87 t x2) 88 t 0).a 88 t = 0
    rw [setA_at]
  · rw [eV]
    show (RS.setA (RS.setA (RS.setA (RS.setI (RS.setI r 114 (r.i 85)) 85 (r.i 85 + 1)) 86 t x1) 87 t x2) 88 t 0).a k = r.a k
    rw [setA_nk d, setA_nk b, setA_nk a]
    rfl
  · rw [eV]
    show (RS.setA (RS.setA (RS.setA (RS.setI (RS.setI r 114 (r.i 85)) 85 (r.i 85 + 1)) 86 t x1) 87 t x2) 88 t 0).a k j = r.a k j
    rw [setA_ne hj, setA_ne hj, setA_ne hj]
    rfl
/-- what a throw changes -/
def RAC (s S : CS) : Prop := (∀ j : Nat, j ≠ 73 → j ≠ 74 → j ≠ 75 → S.i j = s.i j) ∧ (S.i 73 = 4 ∧ S.i 75 = 0) ∧ S.a = s.a ∧ S.r 61 = s.r 61
def RAV (r V : RS) : Prop := (∀ j : Nat, j ≠ 85 → j ≠ 110 → j ≠ 114 → V.i j = r.i j) ∧ (V.i 110 = 3 ∧ (V.i 85).toInt = (r.i 85).toInt + 1) ∧ ∀ k : Nat, k ≠ 86 → k ≠ 87 → k ≠ 88 → V.a k = r.a k
theorem ra_both {N H : Nat} (hN : 1000 ≤ N) {s : CS} {r V : RS} {R : Unit × CS} {mu : Nat → Nat} {c : List Ent} {m : Int} {x1 x2 : Int32} (hr : REFS s) (hm : ROOM H s) (d67 : (s.i 67).toInt = (frs c : Int)) (d22 : frs c ≤ 22) (hmu : MUI r mu) (h0 : 0 ≤ (r.i 85).toInt) (h1 : (r.i 85).toInt < 3199) (k0 : 0 ≤ x1.toInt) (k1 : x1.toInt < (r.i 3).toInt) (e : f_X3_raise N s x1 x2 = some R) (g : f_X12_raise N r x1 x2 = some V) : ∃ (nu : Nat → Nat) (b : Nat), FEQ s R.2 r V mu nu c m ∧ MUI V nu ∧ (R.2.w = some b ∧ (V.i 114).toInt = (nu b : Int) ∧ TLV R.2 V nu b) ∧ RAC s R.2 ∧ RAV r V := by
  obtain ⟨b, nh, ⟨rs1, rs2, rs3, rs4, rs5, rs6, rs7, rs8, rs9, rs10⟩, hw, ⟨o2, o3, o4⟩, i74, hx, hp⟩ := ra_c hN hr hm (by unfold dpI; omega) (by unfold dpI; omega) e
  obtain ⟨v1, ⟨v2, v3, v4⟩, ⟨v5, v6, v7⟩, v8, v9⟩ := ra_r h0 h1 g
  obtain ⟨t, ht⟩ : ∃ t : Nat, t = (r.i 85).toInt.toNat := ⟨_, rfl⟩
  have ht' : (r.i 85).toInt = (t : Int) := by omega
  rw [← ht] at v5 v6 v7 v9
  have nb : (fun x => if x = b then t else mu x) b = t := if_pos rfl
  have nx : ∀ x : Nat, x ≠ b → (fun x => if x = b then t else mu x) x = mu x := fun x h => if_neg h
  have held : ∀ b' : Nat, HLB s c b' → b' ≠ b := fun b' ⟨i, f, q1, q2, q3⟩ z => nh ⟨i, f, by unfold dpI; omega, by omega, q2, by rw [← z]; exact q3⟩
  have fl : ∀ i f : Nat, i < frs c → s.r 61 i = some f → oK s f 1 := fun i f h1 h2 => hr.2.2.2.1 i f (by omega) h2
  have inn : inP R.2 b := rs1.2.2.2.2.2.2.2.2 b hw
  have c0 : (0 : Int32).toInt = 0 := by decide
  refine ⟨fun x => if x = b then t else mu x, b, ⟨fun i f hi hf => ⟨by rw [rs9]; exact hf, (rs10 f (fl i f hi hf)).2⟩, fun b' hb tl => ?_, ⟨by rw [rs8], v8 21 (by decide) (by decide) (by decide), v8 23 (by decide) (by decide) (by decide), v8 31 (by decide) (by decide) (by decide), v8 32 (by decide) (by decide) (by decide)⟩, fun j k q1 q2 _ => by rw [v8 j (by omega) (by omega) (by omega)], fun a ha => ⟨fun k _ => by rw [rs8], fun l _ => by rw [v8 84 (by decide) (by decide) (by decide)]⟩, fun j _ => by rw [v8 98 (by decide) (by decide) (by decide)]⟩, ⟨fun x => ?_, fun x x' q1 q2 q3 => ?_⟩, ⟨hw, by rw [v3, nb]; exact ht', ⟨⟨?_, ?_, fun i hi => ?_⟩, by rw [nb]; omega, inn, ?_⟩⟩, ⟨rs4, ⟨rs5, rs6⟩, rs8, rs9⟩, v1, ⟨v2, v4⟩, v8⟩
  · have hne := held b' hb
    obtain ⟨j, j1, j2⟩ := tl.2.2.1
    obtain ⟨l1, l2, l3⟩ := hr.2.2.2.2.2.1 j b' j1 j2
    have m1 := hr.1 _ l1.1
    have m2 := hr.1 _ l2.1
    have m3 := hr.1 _ l3.1
    have lt := tl.2.1
    have ne : mu b' ≠ t := by omega
    have ek : ∀ k : Nat, V.a k (mu b') = r.a k (mu b') := fun k => v9 k _ ne
    have T1 : TLV R.2 V mu b' := TLV.of ((hx b' m1).1 hne) (hx _ m2).2.2 (hx _ m3).2.2 (fun _ => ⟨j, j1, hp j b' j2⟩) (by omega) (ek 86) (ek 87) (ek 88) (fun i _ => by rw [v8 89 (by decide) (by decide) (by decide)]) (fun i _ => by rw [v8 90 (by decide) (by decide) (by decide)]) (v1 3 (by decide) (by decide) (by decide)) tl
    refine ⟨?_, nx b' hne, ek 87⟩
    unfold TLV at *
    rw [nx b' hne]
    exact T1
  · by_cases z : x = b
    · left
      rw [z, nb]
      omega
    · rw [nx x z]
      rcases hmu.1 x with y | y
      · left
        omega
      · exact Or.inr y
  · by_cases z : x = b
    · by_cases z' : x' = b
      · rw [z, z']
      · rw [nx x' z'] at q2 q3
        rw [z, nb] at q3
        rcases hmu.1 x' with y | y <;> omega
    · rw [nx x z] at q1 q3
      by_cases z' : x' = b
      · rw [z', nb] at q3
        rcases hmu.1 x with y | y <;> omega
      · rw [nx x' z'] at q2 q3
        rcases hmu.1 x with y | y
        · rcases hmu.1 x' with y' | y'
          · exact hmu.2 x x' y y' q3
          · omega
        · omega
  · rw [nb]
    exact ⟨o2.trans v5.symm, o3.trans v6.symm, o4.trans v7.symm⟩
  · rw [nb, v7, c0]
    exact ⟨Int.le_refl _, by decide⟩
  · rw [nb, v7, c0] at hi
    omega
  · rw [nb, v5, v1 3 (by decide) (by decide) (by decide)]
    exact ⟨k0, k1⟩
