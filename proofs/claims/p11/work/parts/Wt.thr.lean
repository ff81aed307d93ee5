/-! both readers: throw -/
/-- what the kinds are: as many as when it was read -/
def JK3 (U s : RS) : JT9 := fun _ _ _ _ _ _ _ => U.i 3 = s.i 3 ∧ 4 ≤ (U.i 3).toInt
theorem CDG.pre {T : JT9} {U : RS} {S P R : CS} {s q u : RS} {a b k k' : Int} (h : CDG k T U P q R u) (a1 : CD1 a b S P) (ha : a ≤ 0) (ha' : a + k ≤ k') (hb : b ≤ 0) (t : CT7 0 (S.i 21).toInt S P) (y : ∀ c : Int, CD2 c s q) (pC : P.i 20 = S.i 20) (pR : q.i 20 = s.i 20) (n50 : S.i 50 = s.i 38) (e38 : q.i 38 = s.i 38) (a40 : ∀ j : Nat, (j : Int) < (s.i 38).toInt → q.a 40 j = s.a 40 j) (l11 : (s.i 11).toInt ≤ (q.i 11).toInt) (l19 : (s.i 19).toInt ≤ (q.i 19).toInt) : CDG k' T U S s R u := by
  intro cr
  obtain ⟨b1, b2, b3, Ψ, sat, h⟩ := h (cr.of a1 ha hb)
  have pC' : pcC P = pcC S := by unfold pcC; rw [pC]
  have pR' : pcR q = pcR s := by unfold pcR; rw [pR]
  refine ⟨(a1.tr b1).wk (by omega) (by omega), t.tr (b2.wk (Int.le_refl _) a1.2.2.1), (y _).tr (b3.wk (by rw [pR]; exact Int.le_refl _)), Ψ, sat.wd (MNO.of a1 (y 0)) (MNO.of (CD1.rf R) (CD2.rf 0 u)), fun FC SF nm X c h' w W g0 ps fc fr ng hc hh ty hW last => ?_⟩
  have z := h FC SF nm X c h' w W g0 ps (fc.sub a1 (CD1.rf R) (CT7.rf _ _ R)) (fr.sub (y 0) (CD2.rf 0 u) (fun _ _ _ => ⟨rfl, rfl, rfl⟩)) (ng.mv n50 a1 (y 0) e38 a40 l19) hc (by omega) ty hW last
  rw [pC', pR'] at z
  exact z
theorem CDG.post {T T' : JT9} {U : RS} {S R R' : CS} {s u u' : RS} {n n' : Int} (h : CDG n T U S s R u) {a b : Int} (k : CD1 a b R R') (ha : n + a ≤ n') (hb : b ≤ 0) (k7 : ∀ a b : Int, CT7 a b R R') (y : ∀ c : Int, CD2 c u u') (pC : R'.i 20 = R.i 20) (tt : ∀ (FC : Nat → Prop) (SF : CS) (nm : Nat → Nat → Prop) (X : Als) (c : List Ent) (h w2 : Nat), T' FC SF nm X c h w2 → T FC SF nm X c h w2) : CDG n' T' U S s R' u' := by
  intro cr
  obtain ⟨b1, b2, b3, Ψ, sat, h⟩ := h cr
  have pC' : pcC R' = pcC R := by unfold pcC; rw [pC]
  refine ⟨(b1.tr k).wk (by omega) (by omega), b2.tr (k7 _ _), b3.tr (y _), Ψ, sat.wd (MNO.of (CD1.rf S) (CD2.rf 0 s)) (MNO.of k (y 0)), fun FC SF nm X c h' w W g0 ps fc fr ng hc hh ty hW last => ?_⟩
  have z := h FC SF nm X c h' w W g0 ps (fc.sub (CD1.rf S) k (k7 _ _)) (fr.sub (CD2.rf 0 s) (y 0) ((y (u.i 20).toInt).c3 (Int.le_refl _))) ng hc hh ty hW (tt _ _ _ _ _ _ _ last)
  rw [pC']
  exact z
/-- the same, no names and tries between -/
def CDO (a : Int) (T : JT9) (U : RS) (S : CS) (s : RS) (R : CS) (u : RS) : Prop := CRB S → CD1 a (-1) S R ∧ CT7 0 (S.i 21).toInt S R ∧ CD2 (s.i 20).toInt s u ∧ ∀ (FC : Nat → Prop) (SF : CS) (nm : Nat → Nat → Prop) (X : Als) (c : List Ent) (h w2 W g0 : Nat), FGC S R SF → FGR s u U → NM4 nm c S s → HC0 nm h c → ((2 * h + 0 + msr c : Nat) : Int) ≤ (s.i 11).toInt → TYC SF U (GU FC SF U nm X) W c → W + 1 ≤ w2 → T FC SF nm X c h w2 → GU FC SF U nm X (pcC S) (pcR s) h (w2 + (pcC R - pcC S)) g0 c
theorem CDO.g {a : Int} {T : JT9} {U : RS} {S R : CS} {s u : RS} (h : CDO a T U S s R u) : CDG a T U S s R u := fun cr => by
  obtain ⟨h1, h2, h3, h4⟩ := h cr
  exact ⟨h1, h2, h3, GPS.tt, SAT.tt _ _ _ _ h3.1.2.2.2.2.1, fun FC SF nm X c h w2 W g0 _ fc fr ng => h4 FC SF nm X c h w2 W g0 fc fr ng.o⟩
/-- one instruction in both -/
theorem cdg_one {N : Nat} {d : Int32} {S : CS} {s U : RS} {o x op v : Int32} {p2 : Unit × CS} {w : Int32 × RS} {R' : CS} {u' : RS} {T : JT9} {a b : Int} (hv : ENV d S s) (h3 : 1 ≤ phI s) (k : CD1 a b p2.2 R') {k' : Int} (la : a + 1 ≤ k') (lb : b ≤ -1) (k7 : ∀ a b : Int, CT7 a b p2.2 R') (y : ∀ c : Int, CD2 c w.2 u') (pC : R'.i 20 = p2.2.i 20) (pW : u'.i 20 = w.2.i 20) (ha : f_X0_add N S o x = some p2) (hw : f_X12_emit N s op v = some w) (step : ∀ (FC : Nat → Prop) (SF : CS) (nm : Nat → Nat → Prop) (X : Als) (c : List Ent) (h w2 W g0 : Nat), PQX SF U (pcC S) (pcR s) → HC0 nm h c → h < 600 → NM4 nm c S s → TYC SF U (GU FC SF U nm X) W c → W + 1 ≤ w2 → SF.a 15 (pcC S) = o → SF.a 16 (pcC S) = x → U.a 21 (pcR s) = op → U.a 22 (pcR s) = v → pcC R' = pcC S + 1 → pcR u' = pcR s + 1 → T FC SF nm X c h w2 → GU FC SF U nm X (pcC S) (pcR s) h (w2 + 1) g0 c) : CDO k' T U S s R' u' := by
  intro cr
  have q44 := hv.p44
  have q44' : (S.i 44).toInt = (s.i 11).toInt := by rw [q44.1]
  have p20 := hv.p20
  have h6 := (i11_hi hv).2
  obtain ⟨d1, d2, ⟨d3, d3'⟩, d4, d5, d6⟩ := cd_add ha cr.1.1 (by have := cr.1.2; omega)
  obtain ⟨m1, m2, m3, m4, m5, m6⟩ := cd_emit hw p20.1 (by omega)
  have pS : ((pcC S : Nat) : Int) = (S.i 20).toInt := Int.toNat_of_nonneg cr.1.1
  have ps : ((pcR s : Nat) : Int) = (s.i 20).toInt := Int.toNat_of_nonneg p20.1
  have pR : pcC R' = pcC S + 1 := by
    unfold pcC
    rw [pC, d2]
    have := cr.1.1
    omega
  have pu : pcR u' = pcR s + 1 := by
    unfold pcR
    rw [pW, m3]
    have := p20.1
    omega
  refine ⟨(d1.tr k).wk (by omega) (by omega), (CT7.eq d4).tr (k7 _ _), m1.tr (y _), ?_⟩
  intro FC SF nm X c h w2 W g0 fc fr ng hc hh ty hW tt
  have f15 := fc.2.1 (pcC S) (by omega) (by rw [pC]; omega)
  have k15 := k.2.1 (pcC S) (by omega)
  have u21 := fr.2.1 (pcR s) (by omega) (by rw [pW]; omega)
  have x21 := (y (w.2.i 20).toInt).2.1 (pcR s) (by omega)
  have fr1 : (u'.i 20).toInt ≤ (U.i 20).toInt := fr.1.2.1
  rw [pW] at fr1
  rw [pR, show w2 + (pcC S + 1 - pcC S) = w2 + 1 by omega]
  exact step FC SF nm X c h w2 W g0 ⟨by have := cr.1.2; omega, by omega, fr.1.2.2⟩ hc (by omega) ng ty hW (by rw [f15.1, k15.1]; exact d3) (by rw [f15.2, k15.2]; exact d3') (by rw [u21.1, x21.1]; exact m4) (by rw [u21.2.1, x21.2.1]; exact m5) pR pu tt
/-- what a statement's last steps leave, all frames of u kept -/
def TLO (d : Int32) (t : Nat) (v : Int32) (S : CS) (u : RS) (R : CS) (V : RS) : Prop := ENV d R V ∧ tpI V = (t : Int) - 1 ∧ (∀ r : Nat, FRB r u V) ∧ TBK u V ∧ CKX S R ∧ V.i 75 = v ∧ (u.i 11).toInt + 1 ≤ (V.i 11).toInt ∧ phI u + 2 ≤ phI V ∧ (u.i 17).toInt + 1 ≤ (V.i 17).toInt ∧ V.i 19 = u.i 19
/-- an instruction, a sign, over -/
theorem y_tail {N : Nat} (hN : 1000 ≤ N) {d : Int32} {S : CS} {u V : RS} {t : Nat} {o x o' x' v : Int32} {y b : Int32 × RS} {w r : Unit × CS} (hv : ENV d S u) (ht : tpI u = t) (t9 : t < 1000) (h1 : 1 ≤ phI u) (e2 : f_X0_add N S o' x' = some w) (e3 : f_X1_expect N w.2 59 = some r) (hy : f_X12_emit N u o x = some y) (hb : f_X12_need N y.2 59 = some b) (ho : f_X12_over N b.2 v = some V) : (¬ r.2.i 32 = 0 ∧ ¬ V.i 15 = 0) ∨ TLO d t v S u r.2 V ∧ (∀ (U : RS) (S0 : CS) (q : RS), ENV d S0 q → CDE 0 U S0 q S u → TBK q u → (u.i 19 = q.i 19 → EUN 0 o' x' o x U S0 q r.2 V)) ∧ (V.i 42 = u.i 42 ∧ (V.i 20).toInt = (u.i 20).toInt + 1) ∧ (∀ (U : RS) (T : JT9), (∀ (FC : Nat → Prop) (SF : CS) (nm : Nat → Nat → Prop) (X : Als) (c : List Ent) (h w2 W g0 : Nat), PQX SF U (pcC S) (pcR u) → HC0 nm h c → h < 600 → NM4 nm c S u → TYC SF U (GU FC SF U nm X) W c → W + 1 ≤ w2 → SF.a 15 (pcC S) = o' → SF.a 16 (pcC S) = x' → U.a 21 (pcR u) = o → U.a 22 (pcR u) = x → pcC r.2 = pcC S + 1 → pcR V = pcR u + 1 → T FC SF nm X c h w2 → GU FC SF U nm X (pcC S) (pcR u) h (w2 + 1) g0 c) → CDO 0 T U S u r.2 V) := by
  obtain ⟨n1, n2, n3, n4, n5, n6⟩ := em_env hv h1 hy
  obtain ⟨nq, -, y11, -, -, -, -, y17, y19, -⟩ := qj2_eq n3
  have kw := kd_X0_add N S o' x' w e2
  have ev := n1.kd kw
  have kp := pj2_eq kw
  have ty := qj_63 nq ht
  rcases y_need hN ev (c := 59) (d := 59) (Or.inl ⟨by decide, by decide⟩) (by decide) (by decide) (by decide) e3 hb with ⟨o1, o2, o3⟩ | ⟨o1, o2, o3, o4, o5, o6, o7, o8, o9, o10, o11, o12⟩
  · exact Or.inl ⟨o2, krf_f_X12_over N b.2 v V ho o3⟩
  · obtain ⟨v1, v2, v3, v4, v5, v6, v7, v8, v9, v10⟩ := y_over o3 (qj_63 o4 ty) t9 ho
    have t17 : (b.2.i 17).toInt = (u.i 17).toInt + 1 := by rw [o6, t17_up (N := N) ev, y17]
    have pb : phI b.2 = phI y.2 + 3 := by
      unfold phI
      rw [o8, o6, t17_up (N := N) ev]
      omega
    have eun : ∀ (U : RS) (S0 : CS) (q : RS), ENV d S0 q → CDE 0 U S0 q S u → TBK q u → u.i 19 = q.i 19 → EUN 0 o' x' o x U S0 q r.2 V := fun U S0 q hq xc tk h19 => eun_of (p := ((), S)) hq xc hv tk h19 e2 hy ⟨rfl, rfl, rfl, fun _ _ => rfl⟩ (fun _ _ => rfl) ev e3 hb o3 o5 o7 (kre_f_X12_over N b.2 v V ho)
    have one : ∀ (U : RS) (T : JT9), (∀ (FC : Nat → Prop) (SF : CS) (nm : Nat → Nat → Prop) (X : Als) (c : List Ent) (h w2 W g0 : Nat), PQX SF U (pcC S) (pcR u) → HC0 nm h c → h < 600 → NM4 nm c S u → TYC SF U (GU FC SF U nm X) W c → W + 1 ≤ w2 → SF.a 15 (pcC S) = o' → SF.a 16 (pcC S) = x' → U.a 21 (pcR u) = o → U.a 22 (pcR u) = x → pcC r.2 = pcC S + 1 → pcR V = pcR u + 1 → T FC SF nm X c h w2 → GU FC SF U nm X (pcC S) (pcR u) h (w2 + 1) g0 c) → CDO 0 T U S u r.2 V := fun U T step => by
      obtain ⟨j1, j2, j3, j4, -, j6⟩ := tok_cd ev o3 o5 (ke_X1_expect N w.2 59 r e3) (kre_f_X12_need N y.2 59 b hb) o7
      exact cdg_one hv h1 j1 (by omega) (by omega) j2 (fun c => (j3 c).tr (CD2.qe (kre_f_X12_over N b.2 v V ho))) j4 ((qe_eq (kre_f_X12_over N b.2 v V ho)).1.1.trans j6) e2 hy step
    have qVb := qe_eq (kre_f_X12_over N b.2 v V ho)
    have qby := qe_eq (kre_f_X12_need N y.2 59 b hb)
    have em42 : y.2.i 42 = u.i 42 := by
      unfold f_X12_emit f_X12_emit_21 at hy
      by_cases c : (3000 : Int32) ≤ u.i 20
      · rw [if_pos c] at hy
        cases hy
        rfl
      · rw [if_neg c] at hy
        obtain ⟨-, hy⟩ := hf_ite hy
        cases hy
        rfl
    have v42 : V.i 42 = u.i 42 ∧ (V.i 20).toInt = (u.i 20).toInt + 1 := ⟨(qVb.1.2.2.2.2.1.trans qby.1.2.2.2.2.1).trans em42, by rw [qVb.1.1, qby.1.1, n6]⟩
    rw [y11] at o7
    refine Or.inr ⟨?_, eun, v42, one⟩
    exact ⟨v1, v2, fun r => ((FRB.of nq).tr (FRB.of o4)).tr (v3 r), (n2.tr (TBK.of o4 (by rw [o8]; exact Int.le_refl _) (fun j _ => by rw [o9]))).tr v4, (CKX.of kp.1 kp.2.2.2.2.1 kp.2.2.2.2.2.2.2.2.2.2.2).tr (CKX.of o5 o10 o11), v5, by rw [v8]; exact o7, by omega, by rw [v9]; omega, by rw [v10, o12, y19]⟩
theorem EXO.tl {d : Int32} {t : Nat} {st v : Int32} {S P R : CS} {q u V : RS} (x : EXO d t st S q P u) (h : TLO d t v P u R V) : XO d t S q R V ∧ V.i 75 = v := by
  obtain ⟨w1, w2, w3, w4, w5, w6, w7, w8, w9, w10⟩ := x
  obtain ⟨h1, h2, h3, h4, h5, h6, h7, h8, h9, h10⟩ := h
  exact ⟨⟨h1, h2, w4.tr (h3 t), w5.tr h4, w6.tr h5, by omega, by omega, by omega, h10.trans w10⟩, h6⟩
/-- one token on, seen from s -/
theorem y_nx {N : Nat} (hN : 1000 ≤ N) {d : Int32} {S : CS} {s q : RS} {t : Nat} {p : Unit × CS} (hv : ENV d S s) (ht : tpI s = t) (h43 : ¬ S.i 43 = 0) (e : f_X9_advance N S = some p) (hq : f_X12_next N s = some q) : ENV d p.2 q ∧ tpI q = t ∧ (∀ r : Nat, FRB r s q) ∧ TBK s q ∧ CKX S p.2 ∧ (s.i 11).toInt + 1 ≤ (q.i 11).toInt ∧ phI q = phI s + 3 ∧ (q.i 17).toInt = (s.i 17).toInt + 1 ∧ q.i 19 = s.i 19 := by
  obtain ⟨a1, a2, a3, a4, a5, a6, a7, a8, a9, a10⟩ := hv.adv hN h43 e hq
  have q17 : (q.i 17).toInt = (s.i 17).toInt + 1 := by rw [a4]; exact t17_up (N := N) hv
  have pq : phI q = phI s + 3 := by
    unfold phI
    rw [a6, q17]
    omega
  exact ⟨a1, qj_63 a2 ht, fun r => FRB.of a2, TBK.of a2 (by rw [a6]; exact Int.le_refl _) (fun j _ => by rw [a7]), CKX.of a3 a8 a9, a5, pq, q17, a10⟩
set_option maxHeartbeats 4000000 in
theorem sx_throw {N : Nat} (hN : 1000 ≤ N) {E1 : CS → Option (Unit × CS)} {E2 : CS → Option (Int32 × CS)} (hm1 : ∀ σ, Kf (CS.i σ 32) (E1 σ)) (hm2 : ∀ σ, Kf (CS.i σ 32) (E2 σ)) (hE : SXR N 18 E1) : SXK N 7 211 (fun _ _ => True) (f_X7_throwOne N E1 E2) (fun U S s R u => CDG (-1) (JK3 U s) U S s R u) := by
  intro d S s U n t R hv _ h36 ht hk hs h2 h43 e g
  obtain ⟨m, V, hV, g2⟩ := rl_7 g ht hv.1.2.1 hk
  unfold f_X12_throwing at hV
  obtain ⟨hib, hV⟩ := hf_ite hV
  have t9 : t < 1000 := by
    have h2 : (s.i 63).toInt = (t : Int) := ht
    have := hib.2
    omega
  rw [tp_nat ht, if_neg (show ¬ s.a 65 t = 1 by rw [hs]; decide)] at hV
  obtain ⟨q, hq, hV⟩ := hf_bind hV
  unfold f_X7_throwOne at e
  obtain ⟨p1, e1, e⟩ := hf_bind e
  obtain ⟨a1, tq, fq, kq, cq, l11, pq, q17, q19⟩ := y_nx hN hv ht (by rw [h43]; decide) e1 hq
  have i5 := tk_is a1 (a := 5) (b := 5) (Or.inl ⟨by decide, by decide⟩) (by decide)
  have i2 := tk_is a1 (a := 2) (b := 2) (Or.inl ⟨by decide, by decide⟩) (by decide)
  have q15 := a1.1.2.1
  have q64 : q.a 64 t = 7 := (fq (t + 1) t (by omega)).1.trans hk
  have flt : ∀ {X : CS}, ¬ X.i 32 = 0 → f_X7_throwOne_152 N E1 E2 X = some R → ¬ R.2.i 32 = 0 := fun z e => by rw [kF_X7_throwOne_152 N E1 E2 hm1 hm2 _ R e z]; exact z
  by_cases c5 : p1.2.i 43 = 5
  · have k5 := i5.mp c5
    rw [e_fnd1 c5, ob_some, if_neg n10] at e
    rw [if_pos k5, y_can1 q15 (by rw [k5]; decide), ob_some, if_neg n10] at hV
    unfold f_X12_throwing_69 at hV
    rw [if_pos k5] at hV
    obtain ⟨k, ek, e⟩ := hf_bind e
    have v45 : p1.2.i 45 = q.i 14 := a1.1.2.2.2.1.2.2.2.2.2 (Or.inr (Or.inr (Or.inr c5)))
    have b45 := a1.lb.1.2.2 c5
    have k13 : p1.2.i 13 = q.i 3 := a1.2.2.2.2.2.1.1
    have hkk : k.2 = p1.2 ∧ (k.1 = 0 ↔ ¬ q.i 14 < q.i 3) := by
      have ek' : f_X10_isKind N p1.2 (p1.2.i 45) = some k := ek
      unfold f_X10_isKind f_X10_isKind_16 at ek'
      rw [if_neg (fun z => by have := lt_int z; rw [z_t0] at this; omega)] at ek'
      by_cases c : p1.2.i 13 ≤ p1.2.i 45
      · rw [if_pos c] at ek'
        cases ek'
        refine ⟨rfl, fun _ z => ?_, fun _ => rfl⟩
        have z1 := lt_int z
        have z2 := le_int c
        rw [k13, v45] at z2
        omega
      · rw [if_neg c] at ek'
        cases ek'
        refine ⟨rfl, fun z => absurd (show (1 : Int32) = 0 from z) (by decide), fun z => ?_⟩
        exfalso
        refine z ?_
        rw [Int32.lt_iff_toInt_lt]
        have z2 := lt_int (Int32.not_le.mp c)
        rw [k13, v45] at z2
        exact z2
    by_cases c0 : k.1 = 0
    · rw [if_pos c0] at e
      rw [if_neg (hkk.2.mp c0), e_fail, ob_some, if_pos q15] at hV
      cases hV
      obtain ⟨f, ef, e⟩ := hf_bind e
      have ff := y_fail (by decide) ef
      refine Or.inl ⟨by rw [kF_X7_throwOne_46 N E1 E2 hm1 hm2 f.2 _ R e ff]; exact ff, u_flt g2 ?_⟩
      show ¬ (3 : Int32) = 0
      decide
    · rw [if_neg c0, hkk.1] at e
      have lt : q.i 14 < q.i 3 := by
        by_cases z : q.i 14 < q.i 3
        · exact z
        · exact absurd (hkk.2.mpr z) c0
      rw [if_pos lt] at hV
      obtain ⟨-, hV⟩ := hf_ite hV
      rw [tp_nat ht] at hV
      obtain ⟨q2, hq2, hV⟩ := hf_bind hV
      rw [ob_id] at hV
      unfold f_X7_throwOne_46 f_X7_throwOne_152 at e
      obtain ⟨p2, e2, e⟩ := hf_bind e
      obtain ⟨p3, e3, e⟩ := hf_bind e
      obtain ⟨p4, e4, e⟩ := hf_bind e
      obtain ⟨p5, e5, e⟩ := hf_bind e
      cases e
      have ev1 : ENV d p1.2 (RS.setA q 66 t (q.i 14)) := setA_env (Or.inr (by omega)) a1
      obtain ⟨b1, tb, fb, kb, cb, m11, pb, b17, b19⟩ := y_nx (s := RS.setA q 66 t (q.i 14)) hN ev1 tq (by rw [c5]; decide) e2 hq2
      have m11' : (q.i 11).toInt + 1 ≤ (q2.i 11).toInt := m11
      have pb' : phI q2 = phI q + 3 := pb
      have b17' : (q2.i 17).toInt = (q.i 17).toInt + 1 := b17
      have b19' : q2.i 19 = q.i 19 := b19
      have c64 : q2.a 64 t = 7 := (fb (t + 1) t (by omega)).1.trans q64
      rcases y_expr hN hm1 hm2 hE b1 tb (by omega) e3 hV g2 with ⟨x1, x2⟩ | ⟨m2, u, g3, xo, xc⟩
      · refine Or.inl ⟨?_, x2⟩
        have z : ¬ p4.2.i 32 = 0 := by rw [fst_add e4]; exact x1
        show ¬ (CS.setI p5.2 36 0).i 32 = 0
        rw [ci_ne _ _ _ (by decide), kF_X1_expect N p4.2 59 p5 e5 z]
        exact z
      · obtain ⟨w1, w2, ⟨f0, f1, f2, -⟩, w4, w5, w6, w7, w8, w9, w10⟩ := id xo
        obtain ⟨m3, V3, hV3, g4⟩ := rl_7 g3 w2 w1.1.2.1 (f0.trans c64)
        unfold f_X12_throwing at hV3
        obtain ⟨-, hV3⟩ := hf_ite hV3
        rw [tp_nat w2, if_pos f1] at hV3
        obtain ⟨y, hy, hV3⟩ := hf_bind hV3
        obtain ⟨b, hb, hV3⟩ := hf_bind hV3
        rw [ob_id] at hV3
        rcases y_tail hN w1 w2 t9 (by omega) e4 e5 hy hb hV3 with ⟨z1, z2⟩ | ⟨tl, eun, -, -⟩
        · refine Or.inl ⟨?_, u_flt g4 z2⟩
          show ¬ (CS.setI p5.2 36 0).i 32 = 0
          rw [ci_ne _ _ _ (by decide)]
          exact z1
        · obtain ⟨x3, x4⟩ := xo.tl tl
          have pre1 : FRB t s (RS.setA q 66 t (q.i 14)) := (fq t).tr (setA_frb (Or.inr ⟨by omega, by omega, Nat.le_refl _⟩))
          have pre2 : TBK s (RS.setA q 66 t (q.i 14)) := kq.tr ⟨setA_tb0 (Or.inr (by omega)), Int.le_refl _, fun _ _ => rfl⟩
          have x5 : XO d t S s p5.2 V3 := XO.pre (pre1.tr (fb t)) (pre2.tr kb) (cq.tr cb) (by omega) (by omega) (by omega) (b19'.trans q19) x3
          refine Or.inr ⟨m3, V3, g4, x5.s36b h36, ?_, ?_⟩
          rotate_left
          · have eu := eun U p2.2 q2 b1 xc w5 w10
            obtain ⟨k1, k2, k3, k4, -, k6, -⟩ := adv_cd hN hv (by rw [h43]; decide) e1 hq
            obtain ⟨l1, l2, l3, l4, -, l6, -⟩ := adv_cd (s := RS.setA q 66 t (q.i 14)) hN ev1 (by rw [c5]; decide) e2 hq2
            have f66 : u.a 66 t = q.i 14 := f2.trans ((fb (t + 1) t (by omega)).2.2.1.trans setA_at)
            have q3 : q.i 3 = s.i 3 := kq.1.1.2.1
            have cd : CDG 0 (JK3 U s) U p2.2 q2 (CS.setI p5.2 36 0) V3 := eu.cdg rfl rfl rfl rfl rfl rfl (fun FC SF nm X c h w2 W p q' hc h6 ty hW tt ng pq x1 x2 x3 x4 x5 x6 x7 => by
              refine gi_URai (pq.hc (hc.up (Nat.le_succ _))) pq.2.1 ⟨h, w2 - 1, rfl, by omega, hc.2.2.2, ty.up (by omega), x1, x3, ?_, ?_, ?_⟩
              · rw [x2, x4, f66]
                exact v45
              · rw [x2]
                exact b45.1
              · rw [x2, tt.1, ← q3]
                have := lt_int lt
                rw [← v45] at this
                exact this) (i11_hi b1).2
            have n50 := hv.2.1.1
            refine cd.pre (k1.tr l1) (by omega) (by omega) (by omega) ((k2 _ _).tr (l2 _ _)) (fun c => ((k3 c).tr (CD2.qe rfl)).tr (l3 c)) (l4.trans k4) (l6.trans k6) n50 ?_ ?_ (by omega) (by rw [b19', q19]; exact Int.le_refl _)
            · exact kb.1.1.2.2.2.1.trans kq.1.1.2.2.2.1
            · intro j hj
              have z1 := (kq.1.2.1 j hj).2.1
              have z2 := (kb.1.2.1 j (by show (j : Int) < (q.i 38).toInt; rw [kq.1.1.2.2.2.1]; exact hj)).2.1
              exact z2.trans z1
          rw [x4]
          exact ⟨(ci_at _ _ _).symm, Or.inl (ci_at _ _ _)⟩
  · rw [e_fnd0 c5, ob_some, if_pos rfl] at e
    have k5 : ¬ q.i 10 = 5 := fun z => c5 (i5.mpr z)
    rw [if_neg k5] at hV
    by_cases c2 : p1.2.i 43 = 2
    · have k2 := i2.mp c2
      rw [e_fnd1 c2, ob_some, if_neg n10] at e
      rw [if_pos k2, y_can1 q15 (by rw [k2]; decide), ob_some, if_neg n10] at hV
      unfold f_X12_throwing_69 at hV
      rw [if_neg k5] at hV
      obtain ⟨F, eF, e⟩ := hf_bind e
      obtain ⟨Q, hQ, hV⟩ := hf_bind hV
      have ll : p1.2.l = q.l := a1.1.2.2.2.1.2.2.2.2.1 c2
      have eF' : f_X4_find N p1.2 q.l = some F := by rw [← ll]; exact eF
      obtain ⟨z1, z2, z3, z4, z5⟩ := y_find a1 eF' hQ
      have f108 : ∀ X : CS, f_X7_throwOne_108 N E1 E2 X = some R → ¬ R.2.i 32 = 0 := fun X e => by
        unfold f_X7_throwOne_108 at e
        obtain ⟨f, ef, e⟩ := hf_bind e
        cases e
        exact y_fail (by decide) ef
      have r142 : f_X12_throwing_142 N q = some V → ¬ U.i 15 = 0 := fun h => by
        unfold f_X12_throwing_142 at h
        rw [e_fail, ob_some, if_pos q15] at h
        cases h
        refine u_flt g2 ?_
        show ¬ (3 : Int32) = 0
        decide
      by_cases cF : F.1 < 0
      · rw [if_pos cF] at e
        rw [if_pos (show Q.1 < 0 by rw [← z3]; exact cF), z2] at hV
        exact Or.inl ⟨f108 _ e, r142 hV⟩
      · rw [if_neg cF, z1] at e
        rw [if_neg (show ¬ Q.1 < 0 by rw [← z3]; exact cF), z2] at hV
        obtain ⟨hib2, hV⟩ := hf_ite hV
        obtain ⟨C, eC, e⟩ := hf_bind e
        have em : (-1 : Int32).toInt = -1 := by decide
        obtain ⟨k, k1, k3', -, -⟩ := z4.resolve_left (fun z => by
          refine cF ?_
          rw [z, Int32.lt_iff_toInt_lt, z_t0, em]
          omega)
        have hk := nms_hi a1
        have Qk : Q.1.toNatClampNeg = k := by
          show Q.1.toInt.toNat = k
          rw [← z3, k1]
          exact Int.toNat_natCast _
        have cau := (a1.2.1.2.2.1 k k3').2
        have gat : gAt (p1.2.a 49) 128 F.1 = p1.2.a 49 k := by
          unfold gAt
          rw [if_pos (show ib F.1 128 from ⟨by omega, by omega⟩)]
          show p1.2.a 49 F.1.toInt.toNat = p1.2.a 49 k
          rw [k1, Int.toNat_natCast]
        unfold f_X4_isCaught at eC
        rw [gat] at eC
        rw [Qk] at hV
        by_cases cc : q.a 41 k = 0
        · rw [if_pos cc] at hV
          have lt : p1.2.a 49 k < 0 := by
            rw [Int32.lt_iff_toInt_lt, z_t0]
            by_cases z : 0 ≤ (p1.2.a 49 k).toInt
            · exact absurd cc (cau.mp z)
            · omega
          rw [if_pos lt] at eC
          cases eC
          have e' : f_X7_throwOne_108 N E1 E2 p1.2 = some R := e
          exact Or.inl ⟨f108 _ e', r142 hV⟩
        · rw [if_neg cc] at hV
          have nlt : ¬ p1.2.a 49 k < 0 := fun z => by
            have z' := lt_int z
            rw [z_t0] at z'
            have := cau.mpr cc
            omega
          rw [if_neg nlt] at eC
          cases eC
          have e' : ((f_X4_frameOf N p1.2 F.1).bind fun p37 => (f_X0_add N p37.2 64 p37.1).bind fun p41 => (f_X9_advance N p41.2).bind fun p45 => f_X7_throwOne_152 N E1 E2 p45.2) = some R := e
          unfold f_X4_frameOf at e'
          rw [ob_some] at e'
          obtain ⟨w, ew, e'⟩ := hf_bind e'
          obtain ⟨p2, e2, e'⟩ := hf_bind e'
          unfold f_X7_throwOne_152 at e'
          obtain ⟨r, er, e'⟩ := hf_bind e'
          cases e'
          obtain ⟨y, hy, hV⟩ := hf_bind hV
          obtain ⟨q2, hq2, hV⟩ := hf_bind hV
          obtain ⟨b, hb, hV⟩ := hf_bind hV
          rw [ob_id] at hV
          obtain ⟨n1, n2, n3, n4, n5, n6⟩ := em_env a1 (by omega) hy
          obtain ⟨nq, -, y11, -, -, -, -, y17, y19, -⟩ := qj2_eq n3
          have kw := kd_X0_add N p1.2 64 _ w ew
          have kp := pj2_eq kw
          obtain ⟨b1, tb, fb, kb, cb, m11, pb, b17, b19⟩ := y_nx hN (n1.kd kw) (qj_63 nq tq) (by rw [kp.2.2.2.2.2.2.2.1, c2]; decide) e2 hq2
          rcases y_need hN b1 (c := 59) (d := 59) (Or.inl ⟨by decide, by decide⟩) (by decide) (by decide) (by decide) er hb with ⟨o1, o2, o3⟩ | ⟨o1, o2, o3, o4, o5, o6, o7, o8, o9, o10, o11, o12⟩
          · refine Or.inl ⟨?_, u_flt g2 (krf_f_X12_over N b.2 0 V hV o3)⟩
            show ¬ (CS.setI r.2 36 0).i 32 = 0
            rw [ci_ne _ _ _ (by decide)]
            exact o2
          · obtain ⟨v1, v2, v3, v4, v5, v6, v7, v8, v9, v10⟩ := y_over o3 (qj_63 o4 tb) t9 hV
            have t17 : (b.2.i 17).toInt = (q2.i 17).toInt + 1 := by rw [o6]; exact t17_up (N := N) b1
            have pbb : phI b.2 = phI q2 + 3 := by
              unfold phI
              rw [o8, t17]
              omega
            rw [y11] at m11
            have x5 : XO d t S s r.2 V := ⟨v1, v2, ((((fq t).tr (FRB.of nq)).tr (fb t)).tr (FRB.of o4)).tr (v3 t), (((kq.tr n2).tr kb).tr (TBK.of o4 (by rw [o8]; exact Int.le_refl _) (fun j _ => by rw [o9]))).tr v4, ((cq.tr (CKX.of kp.1 kp.2.2.2.2.1 kp.2.2.2.2.2.2.2.2.2.2.2)).tr cb).tr (CKX.of o5 o10 o11), by rw [v8]; omega, by omega, by rw [v9]; rw [y17] at b17; omega, by rw [v10, o12, b19, y19, q19]⟩
            refine Or.inr ⟨m, V, g2, x5.s36b h36, ?_, ?_⟩
            rotate_left
            · obtain ⟨k1, k2, k3, k4, -, k6, -⟩ := adv_cd hN hv (by rw [h43]; decide) e1 hq
              obtain ⟨l1, l2, l3, l4, -, l6, -⟩ := adv_cd hN (n1.kd kw) (by rw [kp.2.2.2.2.2.2.2.1, c2]; decide) e2 hq2
              obtain ⟨i1, i2, i3, i4, -, i6⟩ := tok_cd b1 o3 o5 (ke_X1_expect N p2.2 59 r er) (kre_f_X12_need N q2 59 b hb) o7
              have cd2 : CDG (-1) (JK3 U s) U p1.2 q (CS.setI r.2 36 0) V := CDO.g <| cdg_one a1 (by omega) ((l1.tr i1).tr (CD1.pe (b := 0) (R := CS.setI r.2 36 0) rfl rfl rfl rfl rfl (by show (r.2.i 44).toInt + 0 ≤ (r.2.i 44).toInt; omega))) (by omega) (by omega) (fun a b => ((l2 a b).tr (i2 a b)).tr (CT7.eq rfl)) (fun c => ((l3 c).tr (i3 c)).tr (CD2.qe (kre_f_X12_over N b.2 0 V hV))) (i4.trans l4) ((qe_eq (kre_f_X12_over N b.2 0 V hV)).1.1.trans (i6.trans l6)) ew hy (fun FC SF nm X c h w2 W g0 pq hc h6 ng ty hW x1 x2 x3 x4 x5 x6 _ => by
                obtain ⟨l1, e9, l0, y00, y1, y2, y3, y4⟩ := (ng.1 k k3').2 (cau.mpr cc)
                refine gi_UAga (pq.hc hc) pq.2.1 ⟨x1, x3, w2 - 1, by omega, ty.up (by omega), l1, e9, l0, y00, y1, ?_, ?_⟩
                · rw [x2, gat]
                  exact y4
                · rw [x4]
                  exact y3)
              exact cd2.pre (k' := -1) k1 (by omega) (by omega) (by omega) (k2 _ _) k3 k4 k6 hv.2.1.1 kq.1.1.2.2.2.1 (fun j hj => (kq.1.2.1 j hj).2.1) (by omega) (by rw [q19]; exact Int.le_refl _)
            rw [v5]
            exact ⟨(ci_at _ _ _).symm, Or.inl (ci_at _ _ _)⟩
    · rw [e_fnd0 c2, ob_some, if_pos rfl] at e
      have k2 : ¬ q.i 10 = 2 := fun z => c2 (i2.mpr z)
      rw [if_neg k2] at hV
      obtain ⟨f, ef, e⟩ := hf_bind e
      obtain ⟨c, hc, hV⟩ := hf_bind hV
      obtain ⟨c1, c3⟩ := y_can0 hc
      rw [if_pos c1] at hV
      cases hV
      exact Or.inl ⟨flt (y_misp ef) e, u_flt g2 c3⟩
