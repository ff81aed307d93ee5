/-! both readers: the base; a row is popped -/
/-- the row at the bottom, as it was when it was pushed -/
def BAZ (B : CS) (b : RS) : List CEL → Prop
  | [] => False
  | [c] => (¬ isGo (B.o c.2.1 0) ∧ ¬ isTy (B.o c.2.1 0)) ∧ ((b.i 43).toInt = (ceG c : Int) ∧ (ceG c = 0 ∨ b.a 44 (ceG c - 1) = 3)) ∧ (b.i 56).toInt = (ceW c : Int) ∧ (B.i 54).toInt ≤ (B.o c.2.1 1).toInt ∧ (0 < (b.i 56).toInt → (b.a 58 ((b.i 56).toInt - 1).toNat).toInt ≤ (b.i 43).toInt) ∧ ((B.i 53).toInt = (c.1 : Int) + 1 ∧ B.r 51 c.1 = some c.2.1 ∧ 2 ≤ (b.i 38).toInt ∧ (B.i 55).toInt ≤ (B.o c.2.1 14).toInt ∧ 0 ≤ (B.i 38).toInt ∧ WPI b) ∧ (((c.1 : Int) = (B.i 56).toInt ∧ B.o c.2.1 0 = 302) ∨ (c.1 = 0 ∧ (B.i 56).toInt = -1 ∧ B.o c.2.1 0 = 300))
  | _ :: c0 :: L => BAZ B b (c0 :: L)
theorem BAZ.all {B : CS} {b : RS} {S : CS} {s : RS} (cb : CBB B S) : ∀ (L : List CEL) (c : CEL) (m e k : Int), BAZ B b (c :: L) → STK S s (c :: L) m e k → (c.1 : Int) < (S.i 53).toInt → BOT b S (c :: L) ∧ BSE S (c :: L) ∧ BO2 B b S (c :: L) ∧ (B.i 53).toInt ≤ (c.1 : Int) + 1 ∧ (S.i 56).toInt ≤ (c.1 : Int)
  | [], c, m, e, k, h, st, l => by
    obtain ⟨⟨h1, h2⟩, h3, h4, h5, h6, ⟨h7, h8, -⟩, h9⟩ := h
    obtain ⟨m', e', k', g1, -, -⟩ := st
    have eo := (cb.2.1 c.1 c.2.1 (by omega) h8).1
    have e56 := cb.2.2.2.2.2.2.2.2.2.2
    have i56 : (S.i 56).toInt = (B.i 56).toInt := by rw [e56]
    refine ⟨⟨by rw [eo]; exact h1, h3⟩, ⟨g1.1, g1.2.1, l, ?_⟩, ⟨by rw [eo]; exact h2, h4, by rw [eo]; exact h5, h6⟩, by omega, ?_⟩
    · rw [eo, i56]
      exact h9
    · rcases h9 with ⟨z, -⟩ | ⟨z1, z2, -⟩ <;> omega
  | c0 :: L, c, m, e, k, h, st, l => by
    obtain ⟨m', e', k', g1, g2, g3⟩ := st
    obtain ⟨l1, -⟩ := g2 c0 rfl
    have n1 := l1.1
    obtain ⟨r1, r2, r3, r4, r5⟩ := BAZ.all cb L c0 m' e' k' h g3 (by omega)
    exact ⟨r1, ⟨g1.1, g1.2.1, l, n1, r2⟩, r3, by omega, by omega⟩
theorem BAZ.lo {B : CS} {b : RS} : ∀ (L : List CEL), BAZ B b L → 2 ≤ (b.i 38).toInt
  | [], h => h.elim
  | [_], h => h.2.2.2.2.2.1.2.2.1
  | _ :: c0 :: L, h => BAZ.lo (c0 :: L) h
theorem BAZ.b38 {B : CS} {b : RS} : ∀ (L : List CEL), BAZ B b L → 0 ≤ (B.i 38).toInt ∧ WPI b
  | [], h => h.elim
  | [_], h => h.2.2.2.2.2.1.2.2.2.2
  | _ :: c0 :: L, h => BAZ.b38 (c0 :: L) h
theorem BAZ.o14 {B : CS} {b : RS} {S : CS} {s : RS} (cb : CBB B S) : ∀ (L : List CEL) (c : CEL) (m e k : Int), BAZ B b (c :: L) → STK S s (c :: L) m e k → (B.i 55).toInt ≤ (S.o c.2.1 14).toInt
  | [], c, m, e, k, h, st => by
    obtain ⟨-, -, -, -, -, ⟨h7, h8, -, h9, -⟩, -⟩ := h
    rw [(cb.2.1 c.1 c.2.1 (by omega) h8).1]
    exact h9
  | c0 :: L, c, m, e, k, h, st => by
    obtain ⟨m', e', k', g1, g2, g3⟩ := st
    obtain ⟨l1, -⟩ := g2 c0 rfl
    have z := BAZ.o14 cb L c0 m' e' k' h g3
    have := l1.2.2.2.2.2.1
    omega
theorem BAZ.b19 {B : CS} {b : RS} {w : Int32} : ∀ (L : List CEL), BAZ B b L → BAZ B (RS.setI b 19 w) L
  | [], h => h
  | [_], h => h
  | _ :: c0 :: L, h => BAZ.b19 (c0 :: L) h
theorem COR.cx {d : Int32} {B : CS} {b : RS} {t0 T : Nat} {L : List CEL} {x : Int} {S P : CS} {s : RS} (hC : COR d B b t0 L x S s) (hin : INL S s T L) (hT : t0 ≤ T) (ev : ENV d P s) (ck : CKX S P) : COR d B b t0 L x P s := hC.mv hin hT ev (FRB.rf _ _) (TBK.rf s).1.r (TBK.rf s).2 ⟨rfl, rfl, rfl, rfl, rfl, rfl, rfl, rfl, rfl⟩ ck.z ⟨ck.1.2.2.1, ck.1.2.2.2.2.1, ck.1.2.2.2.2.2⟩ ck.2.2.2.2.2.2.2.2 ⟨Int.le_refl _, Int.le_refl _, Int.le_refl _, rfl⟩ hC.2.2.2.2.2.2.2.2.1.2.1 (Int.le_refl _)
theorem cost.ge (S : CS) (a : Nat) : 0 ≤ cost S a := by
  unfold cost
  by_cases c1 : S.o a 0 = 300 ∨ S.o a 0 = 301
  · rw [if_pos c1]; exact Int.le_refl _
  rw [if_neg c1]
  by_cases c2 : S.o a 0 = 302
  · rw [if_pos c2]; decide
  rw [if_neg c2]
  by_cases c3 : S.o a 0 = 303 ∧ 97 ≤ (S.ol a).toInt ∧ (S.ol a).toInt ≤ 122
  · rw [if_pos c3]; decide
  · rw [if_neg c3]; decide
/-- the class: the row on top goes -/
theorem RWI.pop {S R : CS} {n : Nat} (h : RWI S) (hn : cnI S = (n : Int) + 1) (er : R.r = S.r) (eo : R.o = S.o) (eol : R.ol = S.ol) (ec : cnI R = (n : Int)) (ehk : R.hs = S.hs ∧ R.L = S.L ∧ R.k = S.k) (hs : SGS S (n + 1) - sgn S (rowA S n) ≤ sgI R) (he : eI S ≤ eI R) : RWI R := by
  obtain ⟨h1, h2, h3, ⟨h4, h5⟩, h6, h7, h8⟩ := h
  have tn : (cnI S).toNat = n + 1 := by omega
  have tr : (cnI R).toNat = n := by omega
  rw [tn] at h5 h6 h7 h8
  have h5' : NR S n := fun i hi => h5 i (by omega)
  have rs : RSQ S R n := fun i _ => ⟨by rw [er], fun a _ => ⟨by rw [eo], by rw [eol]⟩⟩
  have iq : IQ S n := fun m hm => h6 m (by omega)
  obtain ⟨g1, g2, -, -, -⟩ := rs.sums h5'
  have e1 : WCS S (n + 1) = WCS S n + cost S (rowA S n) := rfl
  have e2 : SGS S (n + 1) = SGS S n + sgn S (rowA S n) := rfl
  have c0 := cost.ge S (rowA S n)
  refine ⟨fun i a hi e => ?_, fun i j a hi hj e1 e2 => ?_, by rw [ehk.1, ehk.2.1]; exact h3, ⟨by omega, by rw [tr]; exact fun i hi => by rw [er]; exact h5' i hi⟩, by rw [tr]; exact iq.of rs h5', by rw [tr, g1]; omega, by rw [tr, g2]; omega⟩
  · rw [er] at e
    have := h1 i a hi e
    unfold oK at *
    rw [ehk.2.1, ehk.2.2]
    exact this
  · rw [er] at e1 e2
    exact h2 i j a hi hj e1 e2
theorem e_pop {N n : Nat} {S : CS} {R : Unit × CS} (h : (S.i 53).toInt = (n : Int) + 2) (e : f_X6_pop N S = some R) : R.2 = CS.setI S 53 (S.i 53 - 1) ∧ (S.i 53 - 1).toInt = (n : Int) + 1 := by
  have e1 : (1 : Int32).toInt = 1 := by decide
  have hi := Int32.toInt_lt (S.i 53)
  have em : (S.i 53 - 1).toInt = (n : Int) + 1 := by
    rw [toInt_sub] <;> rw [e1] <;> omega
  unfold f_X6_pop at e
  rw [if_pos (show 0 < S.i 53 - 1 by rw [Int32.lt_iff_toInt_lt, z_t0]; omega)] at e
  rw [← Option.some.inj e]
  exact ⟨rfl, em⟩
/-- behind the end of a row: the row below it is on top -/
def POPD (d : Int32) (B : CS) (b : RS) (t0 : Nat) (c : CEL) (L : List CEL) (R : CS) (u : RS) : Prop := COR d B b t0 (c :: L) (-9) R u ∧ TOP R u c ∧ MOR c R u
/-- names go -/
theorem ENV.less {d : Int32} {S : CS} {s : RS} {w : Int32} (h : ENV d S s) (hw : 2 ≤ w.toInt ∧ w.toInt ≤ (s.i 38).toInt) : ENV d (CS.setI S 50 w) (RS.setI s 38 w) := by
  obtain ⟨⟨h1, h2, h3, h4, h5, h6, h7, h8⟩, ⟨n1, n2, n3, n4⟩, o, c, l, k, ⟨r1, r2, r3, r4, r5, r6, r7, r8, r9, r10, r11⟩⟩ := h
  refine ⟨⟨h1, h2, h3, h4, h5, h6, h7, h8⟩, ⟨rfl, ⟨hw.1, ?_⟩, fun k hk => n3 k ?_, fun j k hj hk => n4 j k hj ?_⟩, o, c, l, k, ⟨r1, r2, r3, r4, r5, r6, r7, r8.mv rfl rfl rfl rfl ⟨rfl, rfl, rfl⟩ r8.2.2.2.2.2.2 (Int.le_refl _), r9, r10, r11⟩⟩
  · show 8 * (w.toInt - 2) ≤ (s.i 11).toInt + 1
    omega
  · have hk' : (k : Int) < w.toInt := hk
    omega
  · have hk' : (k : Int) < w.toInt := hk
    omega
/-- a row goes, in both: X the class's state, V the reference's -/
theorem pop_core {N : Nat} {d : Int32} {B : CS} {b : RS} {t0 : Nat} {L : List CEL} {S X : CS} {s q V : RS} {c1 c : CEL} {v : Int32} (hD : COR d B b t0 (c :: L) (-9) S s) (tp : TOP S s c1) (lk : LNK S c1 c) (lw : LOW S s c) (bz : BAZ B b (c :: L)) (hT : t0 ≤ ceT c1) (t9 : ceT c1 < 1000) (ts : tpI s = (ceT c1 : Int)) (nw0 : nWl (S.o c1.2.1 0) = 0) (na : isGo (S.o c1.2.1 0) → ¬ s.a 44 (ceG c1) = 3) (hv : v = 0 ∨ v = 1) (ho : f_X12_over N q v = some V) (hq : (∀ k : Nat, k ≠ 38 → k ≠ 43 → k ≠ 52 → q.i k = s.i k) ∧ q.l = s.l ∧ q.a = s.a ∧ q.b = s.b) (q38 : q.i 38 = S.o c1.2.1 3) (q43 : (q.i 43).toInt = (s.i 43).toInt - (nGo (S.o c1.2.1 0) : Int)) (o3 : (b.i 38).toInt ≤ (S.o c1.2.1 3).toInt ∧ (S.o c1.2.1 3).toInt ≤ (S.i 50).toInt) (o3y : ∀ y ∈ c :: L, (S.o y.2.1 3).toInt ≤ (S.o c1.2.1 3).toInt) (Xi0 : ∀ k : Nat, k ≠ 36 → k ≠ 50 → k ≠ 53 → X.i k = S.i k) (X50 : X.i 50 = S.o c1.2.1 3) (X53 : (X.i 53).toInt = (c.1 : Int) + 1) (X36 : X.i 36 = v) (Xr : X.r = S.r ∧ X.o = S.o ∧ X.ol = S.ol ∧ X.a = S.a ∧ X.b = S.b ∧ X.l = S.l ∧ (X.hs = S.hs ∧ X.L = S.L ∧ X.k = S.k)) : POPD d B b t0 c L X V ∧ (∀ y ∈ c :: L, X.o y.2.1 = S.o y.2.1) := by
  obtain ⟨n1, n2, n3, n4', -, -, -, n8, -⟩ := id lk
  have hvS := hD.1
  have cb := hD.2.2.2.2.1
  have t1 := tp.1
  obtain ⟨r1, r2, r3, r4, r5⟩ := BAZ.all cb L c _ _ _ bz hD.2.1 (by omega)
  have lo := BAZ.lo _ bz
  have hin := STK.inl L c _ _ _ hD.2.1 (by omega) (by have := tp.2.1; omega) (by have := tp.2.2; omega)
  rw [← n2] at hin
  have s50 := hvS.2.1.1
  have o38 : (S.o c1.2.1 3).toInt ≤ (s.i 38).toInt := by
    rw [← s50]
    exact o3.2
  obtain ⟨x1, x2, x3, x4, x5, x6, x7⟩ := Xr
  -- the reference
  obtain ⟨y1, y2, y3, y4⟩ := hq
  have y1 : ∀ k : Nat, k ≠ 38 → k ≠ 43 → k ≠ 52 → q.i k = s.i k := y1
  have phq : phI q = phI s := by
    unfold phI
    rw [y1 17 (by decide) (by decide) (by decide), y1 20 (by decide) (by decide) (by decide)]
  have hvL := hvS.less (w := S.o c1.2.1 3) ⟨by omega, o38⟩
  have jq : ∀ k : Nat, k ≠ 43 → k ≠ 52 → q.i k = (RS.setI s 38 (S.o c1.2.1 3)).i k := fun k hk hk2 => by
    by_cases z : k = 38
    · rw [z, q38]
      rfl
    · rw [y1 k z hk hk2]
      exact (if_neg z).symm
  have evq : ENV d (CS.setI S 50 (S.o c1.2.1 3)) q := by
    refine hvL.kq (jq 38 (by decide) (by decide)) (jq 2 (by decide) (by decide)) (jq 3 (by decide) (by decide)) (jq 18 (by decide) (by decide)) (jq 53 (by decide) (by decide)) (jq 54 (by decide) (by decide)) (jq 55 (by decide) (by decide)) (by rw [y3]; rfl) (by rw [y3]; rfl) (by rw [y3]; rfl) (by rw [y4]; rfl) (by rw [y4]; rfl) (jq 10 (by decide) (by decide)) (jq 11 (by decide) (by decide)) (jq 12 (by decide) (by decide)) (jq 14 (by decide) (by decide)) (jq 15 (by decide) (by decide)) (jq 17 (by decide) (by decide)) (jq 19 (by decide) (by decide)) y2 ?_ ?_
    · rw [phq, y1 20 (by decide) (by decide) (by decide)]
      exact ⟨hvS.2.2.2.2.2.2.1, hvS.2.2.2.2.2.2.2.1⟩
    · have w := hvS.wp
      have tg := tp.2.1
      refine ⟨⟨by rw [q43]; omega, by rw [y1 56 (by decide) (by decide) (by decide)]; exact w.1.2.1, fun z => ?_, by rw [y1 29 (by decide) (by decide) (by decide)]; exact w.1.2.2.2⟩, fun j hj => ?_⟩
      · rw [y1 56 (by decide) (by decide) (by decide)] at z ⊢
        rw [y3, q43]
        have t56 := tp.2.2
        obtain ⟨gl1, gl2⟩ := STK.gl L c _ _ _ hD.2.1 r1
        rcases WLT L c _ _ _ hD.2.1 r3 with ⟨w', hw', w1, w2, -⟩ | ⟨-, w2, w3⟩
        · obtain ⟨⟨-, z2⟩, -⟩ := hD.2.1.ty w' hw' w1
          have g3 := gl2 w' hw'
          have en : ((s.i 56).toInt - 1).toNat = ceW w' := by omega
          rw [en, z2]
          omega
        · have e56 : (s.i 56).toInt = (b.i 56).toInt := by omega
          have y := (hD.2.2.2.2.2.1.2.1.2.2.2.2.2.1 ((b.i 56).toInt - 1).toNat (by omega)).2
          have z3 := w3 (by omega)
          rw [e56, y]
          omega
      · rw [y1 59 (by decide) (by decide) (by decide)] at hj
        rw [y3, y1 29 (by decide) (by decide) (by decide)]
        exact w.2 j hj
  have tq : tpI q = (ceT c1 : Int) := by
    show (q.i 63).toInt = _
    rw [y1 63 (by decide) (by decide) (by decide)]
    exact ts
  obtain ⟨v1, v2, -, -, v5, -, v7, v8, v9, v10⟩ := y_over evq tq t9 ho
  have eV : V = RS.setI (RS.setI q 75 v) 63 (q.i 63 - 1) := by
    unfold f_X12_over at ho
    obtain ⟨-, ho⟩ := hf_ite ho
    exact (Option.some.inj ho).symm
  have Va : V.a = s.a := by rw [eV]; exact y3
  have Vb : V.b = s.b := by rw [eV]; exact y4
  have Vi : ∀ k : Nat, k ≠ 38 → k ≠ 43 → k ≠ 52 → k ≠ 63 → k ≠ 75 → V.i k = s.i k := fun k h0 h1 h4 h2 h3 => by
    rw [eV]
    have z : (RS.setI (RS.setI q 75 v) 63 (q.i 63 - 1)).i k = q.i k := (if_neg h2).trans (if_neg h3)
    rw [z, y1 k h0 h1 h4]
  have V38 : V.i 38 = S.o c1.2.1 3 := by
    rw [eV]
    exact q38
  have V43 : V.i 43 = q.i 43 := by
    rw [eV]
    rfl
  clear eV
  have phV : phI V = phI s := v7.trans phq
  have tg := tp.2.1
  have tw := tp.2.2
  have evX : ENV d X V := by
    refine v1.gx (fun j _ h36 _ h53 _ _ _ => ?_) ⟨by rw [x4]; rfl, by rw [x4]; rfl, by rw [x4]; rfl⟩ x5 x6 ?_ ?_ ?_
    · by_cases z : j = 50
      · rw [z, X50, ci_at]
      · rw [Xi0 j h36 z h53, ci_ne _ _ _ z]
    · have w := hvS.ri
      refine w.pop (n := c1.1) (by show (S.i 53).toInt = _; omega) x1 x2 x3 (by show (X.i 53).toInt = _; omega) x7 ?_ ?_
      · have w8 := w.2.2.2.2.2.2
        have tn : (cnI S).toNat = c1.1 + 1 := by
          have : cnI S = (S.i 53).toInt := rfl
          omega
        rw [tn] at w8
        have z : sgI X = sgI S := by
          unfold sgI
          rw [Xi0 34 (by decide) (by decide) (by decide)]
        have s0 : 0 ≤ sgn S (rowA S c1.1) := by
          unfold sgn
          by_cases k1 : S.o (rowA S c1.1) 0 = 302
          · rw [if_pos k1]; decide
          · rw [if_neg k1]
            by_cases k2 : S.o (rowA S c1.1) 0 = 301 ∨ S.o (rowA S c1.1) 0 = 212 ∨ S.o (rowA S c1.1) 0 = 218 ∨ S.o (rowA S c1.1) 0 = 213 ∨ S.o (rowA S c1.1) 0 = 215 ∨ S.o (rowA S c1.1) 0 = 216
            · rw [if_pos k2]; decide
            · rw [if_neg k2]; exact Int.le_refl _
        omega
      · unfold eI plI
        rw [Xi0 43 (by decide) (by decide) (by decide), Xi0 44 (by decide) (by decide) (by decide)]
        exact Int.le_refl _
    · have z := v1.sj
      have c54 : (CS.setI S 50 (S.o c1.2.1 3)).i 54 = S.i 54 ∧ (CS.setI S 50 (S.o c1.2.1 3)).i 55 = S.i 55 ∧ (CS.setI S 50 (S.o c1.2.1 3)).i 38 = S.i 38 := ⟨rfl, rfl, rfl⟩
      unfold SJB at *
      rw [c54.1, c54.2.1, c54.2.2] at z
      rw [Xi0 54 (by decide) (by decide) (by decide), Xi0 55 (by decide) (by decide) (by decide), Xi0 38 (by decide) (by decide) (by decide)]
      exact z
    · rw [Xi0 21 (by decide) (by decide) (by decide)]
      exact v1.t21
  have ck : CKZ S X := ⟨Xi0 22 (by decide) (by decide) (by decide), fun _ _ => by rw [x1], fun _ _ _ _ => by rw [x2, x3]; exact ⟨rfl, rfl⟩, fun _ _ => by rw [x4], by rw [Xi0 54 (by decide) (by decide) (by decide)]; exact Int.le_refl _, by rw [Xi0 55 (by decide) (by decide) (by decide)]; exact Int.le_refl _, fun _ _ => by rw [x4], fun k h1 h2 => by rw [Xi0 55 (by decide) (by decide) (by decide)] at h2; omega⟩
  have fr : FRB (ceT c1) s V := fun j _ => by
    rw [Va, Vb]
    exact ⟨rfl, rfl, rfl, rfl, rfl, rfl, rfl, rfl, rfl, rfl, rfl⟩
  have tb : TBR s V := by
    unfold TBR
    rw [Va, Vb, Vi 59 (by decide) (by decide) (by decide) (by decide) (by decide), Vi 29 (by decide) (by decide) (by decide) (by decide) (by decide), Vi 33 (by decide) (by decide) (by decide) (by decide) (by decide), Vi 24 (by decide) (by decide) (by decide) (by decide) (by decide)]
    exact ⟨fun _ _ => ⟨rfl, rfl, rfl⟩, fun _ _ => ⟨rfl, rfl, rfl, rfl, rfl, rfl, rfl, rfl⟩, fun _ _ => ⟨rfl, rfl⟩, ⟨Int.le_refl _, fun j k1 k2 => by omega⟩, fun _ _ => ⟨rfl, rfl, rfl⟩, Int.le_refl _, fun _ _ => rfl, Int.le_refl _, fun _ _ => ⟨rfl, rfl⟩, Int.le_refl _, fun _ _ => ⟨rfl, rfl, rfl⟩⟩
  have tbb := hD.2.2.2.2.2.1.2.1
  have gl := STK.gl L c _ _ _ hD.2.1 r1
  have iar : IAR X V := by
    obtain ⟨⟨z1, z2⟩, z3⟩ := hD.2.2.2.2.2.2.2.2.2.1
    unfold IAR
    rw [Xi0 56 (by decide) (by decide) (by decide), Va, x1, V43, q43]
    refine ⟨⟨fun z => ?_, fun z => ?_⟩, fun z => ?_⟩
    · obtain ⟨g, g1, g2⟩ := z1 z
      refine ⟨g, ?_, g2⟩
      by_cases gg : isGo (S.o c1.2.1 0)
      · have ng := nGo1 gg
        have : ¬ g = ceG c1 := fun q => na gg (by rw [← q]; exact g2)
        omega
      · have ng := nGo.eq gg
        omega
    · obtain ⟨g, g1, g2⟩ := z
      exact z2 ⟨g, by omega, g2⟩
    · obtain ⟨k1, k2, k3⟩ := z3 z
      exact ⟨by omega, k2, k3⟩
  have cV := hD.mv2 hin hT evX fr tb ⟨by rw [Vi 20 (by decide) (by decide) (by decide) (by decide) (by decide)]; exact Int.le_refl _, fun j _ => by rw [Va]⟩ ⟨Vi 2 (by decide) (by decide) (by decide) (by decide) (by decide), Vi 3 (by decide) (by decide) (by decide) (by decide) (by decide), Vi 8 (by decide) (by decide) (by decide) (by decide) (by decide), by rw [Va], by rw [Va], by rw [Vb]⟩ ck (Xi0 38 (by decide) (by decide) (by decide)) (Xi0 56 (by decide) (by decide) (by decide)) (fun y hy => by rw [X50]; exact o3y y hy) (by omega) (by rw [V38]; exact o3.1) (by rw [V43, q43]; have := gl.1; omega) (by rw [Vi 56 (by decide) (by decide) (by decide) (by decide) (by decide)]; exact tbb.2.2.1) iar (by
    unfold RTE
    rw [Xi0 21 (by decide) (by decide) (by decide), Xi0 54 (by decide) (by decide) (by decide), Xi0 55 (by decide) (by decide) (by decide), Xi0 44 (by decide) (by decide) (by decide)]
    exact ⟨Int.le_refl _, Int.le_refl _, Int.le_refl _⟩) ⟨by rw [Vi 11 (by decide) (by decide) (by decide) (by decide) (by decide)]; exact Int.le_refl _, by rw [phV]; exact hD.2.2.2.2.2.2.1.2.1, by rw [Vi 17 (by decide) (by decide) (by decide) (by decide) (by decide)]; exact Int.le_refl _, by rw [Vi 19 (by decide) (by decide) (by decide) (by decide) (by decide)]⟩ (by rw [V38, Vi 11 (by decide) (by decide) (by decide) (by decide) (by decide)]; have := hD.2.2.2.2.2.2.2.2.1.2.1; omega)
  have eo : ∀ y ∈ c :: L, X.o y.2.1 = S.o y.2.1 := fun y _ => by rw [x2]
  have lwV : LOW X V c := lw.mv (eo c List.mem_cons_self) fr (by omega)
  refine ⟨⟨cV, ⟨X53, ?_, ?_⟩, MOD.rt lwV ?_ (v5.trans X36.symm) (by rw [X36]; exact hv) (fun z1 z2 z3 => ?_)⟩, eo⟩
  · rw [V43, q43, eo c List.mem_cons_self]
    omega
  · rw [Vi 56 (by decide) (by decide) (by decide) (by decide) (by decide), eo c List.mem_cons_self]
    omega
  · rw [v2, eo c List.mem_cons_self]
    omega
  · rw [x2] at z1 z2 z3 ⊢
    rw [X50]
    exact n8 z1 z2 z3
/-- a row with one body goes: its names are those that stand -/
theorem pop_one {N : Nat} {E1 : CS → Option (Unit × CS)} {E2 : CS → Option (Int32 × CS)} {d : Int32} {B : CS} {b : RS} {t0 : Nat} {L : List CEL} {S : CS} {s q V : RS} {c1 c : CEL} {v : Int32} {R : Unit × CS} (hD : COR d B b t0 (c :: L) (-9) S s) (tp : TOP S s c1) (lk : LNK S c1 c) (lw : LOW S s c) (bz : BAZ B b (c :: L)) (hT : t0 ≤ ceT c1) (t9 : ceT c1 < 1000) (ts : tpI s = (ceT c1 : Int)) (hm : NMC c1 S) (one : isOne (S.o c1.2.1 0)) (n7 : ¬ S.o c1.2.1 0 = 207) (n4 : ¬ S.o c1.2.1 0 = 304) (na : isGo (S.o c1.2.1 0) → ¬ s.a 44 (ceG c1) = 3) (hv : v = 0 ∨ v = 1) (ho : f_X12_over N q v = some V) (hq : (∀ k : Nat, k ≠ 43 → q.i k = s.i k) ∧ q.l = s.l ∧ q.a = s.a ∧ q.b = s.b) (q43 : (q.i 43).toInt = (s.i 43).toInt - (nGo (S.o c1.2.1 0) : Int)) (e : f_X7_endBody_193 N E1 E2 (CS.setI S 36 v) c1.2.1 = some R) : POPD d B b t0 c L R.2 V ∧ (∀ y ∈ c :: L, R.2.o y.2.1 = S.o y.2.1) := by
  obtain ⟨n1, n2, n3, n4', -, -, -, n8, -⟩ := id lk
  have hvS := hD.1
  have nw0 : nWl (S.o c1.2.1 0) = 0 := by
    rcases one with h | h | h | h | h | h | h <;> rw [h] <;> rfl
  have cb := hD.2.2.2.2.1
  have t1 := tp.1
  obtain ⟨r1, r2, r3, r4, r5⟩ := BAZ.all cb L c _ _ _ bz hD.2.1 (by omega)
  have hin := STK.inl L c _ _ _ hD.2.1 (by omega) (by have := tp.2.1; omega) (by have := tp.2.2; omega)
  rw [← n2] at hin
  -- the class
  unfold f_X7_endBody_193 at e
  obtain ⟨-, e⟩ := hf_ite e
  obtain ⟨p14, e14z, e⟩ := hf_bind e
  have e14 : f_X6_pop N (CS.setI (CS.setI S 36 v) 50 (S.o c1.2.1 3)) = some p14 := e14z
  clear e14z
  have i53 : (CS.setI (CS.setI S 36 v) 50 (S.o c1.2.1 3)).i 53 = S.i 53 := by
    rw [ci_ne _ _ _ (by decide), ci_ne _ _ _ (by decide)]
  obtain ⟨p1, p2⟩ := e_pop (n := c.1) (by rw [i53]; omega) e14
  have eR : R.2 = CS.setI (CS.setI (CS.setI S 36 v) 50 (S.o c1.2.1 3)) 53 (S.i 53 - 1) := by
    rw [← Option.some.inj e, ← i53]
    exact p1
  rw [i53] at p2
  have c50 : S.i 50 = S.o c1.2.1 3 := hm one n7 n4
  obtain ⟨X, hX⟩ : ∃ X, X = R.2 := ⟨_, rfl⟩
  have Xi : ∀ k : Nat, k ≠ 36 → k ≠ 53 → X.i k = S.i k := fun k h1 h2 => by
    rw [hX, eR, ci_ne _ _ _ h2]
    by_cases z : k = 50
    · rw [z, ci_at, c50]
    · rw [ci_ne _ _ _ z, ci_ne _ _ _ h1]
  have X53 : (X.i 53).toInt = (c.1 : Int) + 1 := by
    rw [hX, eR, ci_at]
    exact p2
  have X36 : X.i 36 = v := by
    rw [hX, eR, ci_ne _ _ _ (by decide), ci_ne _ _ _ (by decide), ci_at]
  have Xr : X.r = S.r ∧ X.o = S.o ∧ X.ol = S.ol ∧ X.a = S.a ∧ X.b = S.b ∧ X.l = S.l ∧ (X.hs = S.hs ∧ X.L = S.L ∧ X.k = S.k) := by
    rw [hX, eR]
    exact ⟨rfl, rfl, rfl, rfl, rfl, rfl, rfl, rfl, rfl⟩
  rw [← hX]
  clear hX eR e e14 p1
  have s50 := hvS.2.1.1
  have tbb := hD.2.2.2.2.2.1.2.1
  exact pop_core hD tp lk lw bz hT t9 ts nw0 na hv ho ⟨fun k _ h _ => hq.1 k h, hq.2⟩ (by rw [hq.1 38 (by decide), ← s50]; exact c50) q43 ⟨by rw [← c50, s50]; exact tbb.1, by rw [c50]; exact Int.le_refl _⟩ (fun y hy => by rw [← c50]; exact (hD.2.2.2.2.2.2.2.1.2.1 y hy).2) (fun k h1 _ h3 => Xi k h1 h3) ((Xi 50 (by decide) (by decide)).trans c50) X53 X36 Xr
