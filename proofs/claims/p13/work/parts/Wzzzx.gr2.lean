/-! both readers: behind a try's block or a catch's -/
def stO (a k : Nat) (w : Int32) (v : PJT2) : PJT2 := ((v.1.1, v.1.2.1, v.1.2.2.1, va_up v.1.2.2.2.1 a (upd (v.1.2.2.2.1 a) k w), v.1.2.2.2.2), v.2)
theorem pj2_so (S : CS) (a k : Nat) (w : Int32) : pj2 (CS.setO S a k w) = stO a k w (pj2 S) := rfl
/-- at what is no token the class goes on to a fault -/
def NDC (R : CS) (n0 : Nat) : Prop := R.i 32 = 0 ∧ R.i 43 = 6 ∧ ((n0 : Int) < (R.i 53).toInt ∧ (R.i 53).toInt ≤ 381) ∧ ∀ n : Nat, n0 ≤ n → (n : Int) < (R.i 53).toInt → ∃ a : Nat, R.r 51 n = some a ∧ ¬ R.o a 0 = 305 ∧ (n = n0 → ¬ isOne (R.o a 0))
def NDM (B R : CS) (U : RS) : Prop := ¬ U.i 15 = 0 ∧ ∃ n0 : Nat, (B.i 53).toInt = (n0 : Int) + 1 ∧ NDC R n0
theorem BAZ.pl {B : CS} {b : RS} {S : CS} {s : RS} (cb : CBB B S) {n0 : Nat} (hn : (B.i 53).toInt = (n0 : Int) + 1) : ∀ (L : List CEL) (c : CEL) (m e k : Int), BAZ B b (c :: L) → STK S s (c :: L) m e k → LOW S s c → (c.1 : Int) < (S.i 53).toInt → ∀ n : Nat, n0 ≤ n → n ≤ c.1 → ∃ a : Nat, S.r 51 n = some a ∧ ¬ S.o a 0 = 305 ∧ (n = n0 → ¬ isOne (S.o a 0)) ∧ ∃ y ∈ c :: L, y.2.1 = a
  | [], c, m, e, k, h, st, lw, hc, n, h1, h2 => by
    obtain ⟨-, -, -, -, -, ⟨h7, h8, -⟩, h9⟩ := h
    obtain ⟨m', e', k', g1, -, -⟩ := st
    have eo := (cb.2.1 c.1 c.2.1 (by omega) h8).1
    have en : n = c.1 := by omega
    refine ⟨c.2.1, by rw [en]; exact g1.1, lw.1, fun _ z => ?_, c, List.mem_cons_self, rfl⟩
    rw [eo] at z
    rcases h9 with ⟨-, w⟩ | ⟨-, -, w⟩ <;> rw [w] at z <;> unfold isOne at z <;> exact absurd z (by decide)
  | c0 :: L, c, m, e, k, h, st, lw, hc, n, h1, h2 => by
    obtain ⟨m', e', k', g1, g2, g3⟩ := st
    obtain ⟨l1, l2⟩ := g2 c0 rfl
    have n1 := l1.1
    by_cases z : n = c.1
    · refine ⟨c.2.1, by rw [z]; exact g1.1, lw.1, fun w => ?_, c, List.mem_cons_self, rfl⟩
      exfalso
      have r4 := (BAZ.all cb L c0 m' e' k' h g3 (by omega)).2.2.2.1
      omega
    · obtain ⟨a, q1, q2, q3, y, hy, q4⟩ := BAZ.pl cb hn L c0 m' e' k' h g3 l2 (by omega) n h1 (by omega)
      exact ⟨a, q1, q2, q3, y, List.mem_cons_of_mem _ hy, q4⟩
theorem BAZ.n0 {B : CS} {b : RS} : ∀ (L : List CEL), BAZ B b L → ∃ n0 : Nat, (B.i 53).toInt = (n0 : Int) + 1
  | [], h => h.elim
  | [c], h => ⟨c.1, h.2.2.2.2.2.1.1⟩
  | _ :: c0 :: L, h => BAZ.n0 (c0 :: L) h
theorem nd_of {d : Int32} {B : CS} {b : RS} {t0 : Nat} {L : List CEL} {x : Int} {S R : CS} {s U : RS} {c1 c : CEL} (hC : COR d B b t0 (c1 :: c :: L) x S s) (tp : TOP S s c1) (bz : BAZ B b (c1 :: c :: L)) (hU : ¬ U.i 15 = 0) (er : R.r = S.r) (eo : ∀ y ∈ c :: L, R.o y.2.1 = S.o y.2.1) (h53 : (R.i 53).toInt = (c.1 : Int) + 1) (h43 : R.i 43 = 6) (h32 : R.i 32 = 0) : NDM B R U := by
  obtain ⟨m', e', k', -, lkl, stl⟩ := id hC.2.1
  obtain ⟨lk, lw⟩ := lkl c rfl
  have t1 := tp.1
  have n1 := lk.1
  have cb := hC.2.2.2.2.1
  obtain ⟨mm, hmm, m380⟩ := RWI.few hC.1
  have hmm' : (S.i 53).toInt = (mm : Int) := hmm
  obtain ⟨-, r2, -, r4, -⟩ := BAZ.all cb L c _ _ _ bz stl (by omega)
  have hn0 : ∃ n0 : Nat, (B.i 53).toInt = (n0 : Int) + 1 := BAZ.n0 _ bz
  obtain ⟨n0, hn0⟩ := hn0
  refine ⟨hU, n0, hn0, h32, h43, ⟨by omega, by omega⟩, fun n q1 q2 => ?_⟩
  obtain ⟨a, w1, w2, w3, y, hy, w4⟩ := BAZ.pl cb hn0 L c _ _ _ bz stl lw (by omega) n q1 (by omega)
  have e0 := eo y hy
  rw [w4] at e0
  exact ⟨a, by rw [er]; exact w1, by rw [e0]; exact w2, fun z => by rw [e0]; exact w3 z⟩
set_option maxHeartbeats 2000000 in
theorem en_grd {N : Nat} (hN : 1000 ≤ N) {d : Int32} {B : CS} {b : RS} {t0 n : Nat} {L : List CEL} {x : Int} {S : CS} {s U : RS} {c1 c : CEL} {R : Unit × CS} {Aj : JBA} (hC0 : COR d B b t0 (c1 :: c :: L) x S s) (tp0 : TOP S s c1) (hM : MLI c1 S s) (h36 : S.i 36 = 0 ∨ S.i 36 = 1) (hs : S.o c1.2.1 0 = 213 ∨ S.o c1.2.1 0 = 215) (k125 : S.i 43 = 125) (bz : BAZ B b (c1 :: c :: L)) (hT : t0 ≤ ceT c1) (e : f_X7_endList N S c1.2.1 = some R) (g : f_X12_parse_10 N n s = some U) : (¬ R.2.i 32 = 0 ∧ ¬ U.i 15 = 0) ∨ NDM B R.2 U ∨ (∃ (m : Nat) (u : RS), f_X12_parse_10 N m u = some U ∧ NEW d B b t0 c L R.2 u (fun V R' u' => JRW Aj U B b (vws S s (c1 :: c :: L)) S s → JRX Aj U B b V R' u')) ∨ ∃ (m : Nat) (u : RS), f_X12_parse_10 N m u = some U ∧ POPD d B b t0 c L R.2 u ∧ JTR Aj U B b (c1 :: c :: L) S s (vws R.2 u (c :: L)) R.2 u := by
  obtain ⟨Y, m, u, eY, g1, hC, tp, tu, y50, y36, y38, jr5⟩ := grd_1 (Aj := Aj) hN hC0 tp0 hM h36 hs k125 bz hT e g
  clear e g hM h36 hs k125
  obtain ⟨X, hX⟩ : ∃ X, X = CS.setO Y c1.2.1 0 305 := ⟨_, rfl⟩
  have Xi : X.i = Y.i := by rw [hX]; rfl
  have X0 : X.o c1.2.1 0 = 305 := by rw [hX, so_at]
  have Xk : ∀ k : Nat, k ≠ 0 → X.o c1.2.1 k = Y.o c1.2.1 k := fun k hk => by rw [hX, so_nk hk]
  have hv := hC.1
  rw [← hX] at hC tp hv jr5
  have ty : isTy (X.o c1.2.1 0) := by rw [X0]; exact Or.inr (Or.inr (Or.inl rfl))
  have is215 := tk_is hv (a := 215) (b := 425) (Or.inr ⟨by decide, by decide⟩) (by decide)
  have is216 := tk_is hv (a := 216) (b := 426) (Or.inr ⟨by decide, by decide⟩) (by decide)
  have is6 := tk_is hv (a := 6) (b := 6) (Or.inl ⟨by decide, by decide⟩) (by decide)
  rw [Xi] at is215 is216 is6
  have new : Y.i 43 = 215 ∨ Y.i 43 = 216 → some ((), CS.setO Y c1.2.1 0 305) = some R → ∃ (m : Nat) (u : RS), f_X12_parse_10 N m u = some U ∧ NEW d B b t0 c L R.2 u (fun V R' u' => JRW Aj U B b (vws S s (c1 :: c :: L)) S s → JRX Aj U B b V R' u') := fun htk h => by
    have hR : R.2 = X := by rw [← Option.some.inj h, hX]
    have hcod : cod c1 X u = -9 := by
      unfold cod
      exact if_neg (fun z => by rw [X0] at z; exact absurd z.1 (by decide))
    refine ⟨m, u, g1, c1, ?_, ?_, ⟨Or.inr (Or.inr (Or.inr (Or.inr ⟨?_, tu, ?_, ?_, y38⟩))), ?_⟩, fun jw => ?_⟩
    · rw [hR, hcod]
      exact hC
    · rw [hR]
      exact tp
    · rw [hR]
      exact X0
    · rw [hR, Xi, Xk 3 (by decide)]
      exact y50
    · rw [hR, Xi]
      exact htk
    · rw [hR, Xi]
      exact y36
    · rw [hR]
      refine ⟨fun r V' e z => ?_, fun h => absurd X0 (h _ _ rfl)⟩
      cases e
      exact jr5 jw
  unfold f_X7_endGuarded_46 at eY
  by_cases c5 : Y.i 43 = 215
  · rw [e_fnd1 c5, ob_some, if_neg n10] at eY
    unfold f_X7_endGuarded_66 at eY
    obtain ⟨-, eY⟩ := hf_ite eY
    exact Or.inr (Or.inr (Or.inl (new (Or.inl c5) eY)))
  rw [e_fnd0 c5, ob_some, if_pos rfl] at eY
  by_cases c6 : Y.i 43 = 216
  · rw [e_fnd1 c6, ob_some, if_neg n10] at eY
    unfold f_X7_endGuarded_66 at eY
    obtain ⟨-, eY⟩ := hf_ite eY
    exact Or.inr (Or.inr (Or.inl (new (Or.inr c6) eY)))
  rw [e_fnd0 c6, ob_some, if_pos rfl] at eY
  obtain ⟨-, eY⟩ := hf_ite eY
  -- the reference's frame
  obtain ⟨m1, e1, k1, m2, e2, k2, cst⟩ := STK.mem _ _ _ _ hC.2.1 c1 List.mem_cons_self
  obtain ⟨⟨z64, zid, ⟨zwh, zwb⟩, zwl⟩, -, -, zs305, -, zb⟩ := cst.2.2.1.2.2.2.2.2.2.2.2.2.2.2.2 ty
  obtain ⟨z65, z68⟩ := zs305 X0
  obtain ⟨m3, V, hV, g3⟩ := rl_15 g1 tu hv.1.2.1 z64
  have tt : ceT c1 < 1000 := by
    unfold f_X12_trying at hV
    obtain ⟨hib, -⟩ := hf_ite hV
    have h2 : (u.i 63).toInt = (ceT c1 : Int) := tu
    have := hib.2
    omega
  unfold f_X12_trying at hV
  obtain ⟨-, hV⟩ := hf_ite hV
  rw [tp_nat tu, z65, if_neg (by decide), if_neg (by decide), if_pos rfl, if_neg (fun z => c5 (is215.mpr z)), if_neg (fun z => c6 (is216.mpr z))] at hV
  rw [Xk 8 (by decide)] at zwh zwb
  by_cases c8 : Y.o c1.2.1 8 = 0
  · -- not whole
    rw [if_pos c8] at eY
    left
    refine ⟨y_misp (ob_un eY), ?_⟩
    have nw : ¬ (u.a 67 (ceT c1) = 1 ∨ 0 ≤ (u.a 72 (ceT c1)).toInt) := fun z => by
      have w := zwh.mpr z
      rw [c8] at w
      exact absurd w (by decide)
    have n72 : u.a 72 (ceT c1) < 0 := Int32.lt_iff_toInt_lt.mpr (by
      rw [z_t0]
      by_cases z : 0 ≤ (u.a 72 (ceT c1)).toInt
      · exact absurd (Or.inr z) nw
      · omega)
    rw [if_neg (fun z => nw (Or.inl z)), if_pos n72] at hV
    obtain ⟨p, hp, hV⟩ := hf_bind hV
    obtain ⟨w1, w2⟩ := y_can0 hp
    rw [if_pos w1] at hV
    rw [← Option.some.inj hV] at g3
    exact u_flt g3 w2
  rw [if_neg c8] at eY
  have w8 : Y.o c1.2.1 8 = 1 := zwb.resolve_left c8
  obtain ⟨p30, e30, eY⟩ := hf_bind eY
  obtain ⟨-, eY⟩ := hf_ite eY
  obtain ⟨p35, e35, eY⟩ := hf_bind eY
  obtain ⟨-, eY⟩ := hf_ite eY
  obtain ⟨-, eY⟩ := hf_ite eY
  have epp := ob_un eY
  have kdP : pj2 p35.2 = pj2 Y := (kd_X0_aim N _ _ p35 e35).trans (kd_X0_add N _ _ _ p30 e30)
  obtain ⟨⟨z1, z2, z3, z4⟩, ⟨z5, z6⟩, ⟨z7, z8, z9, z10, z11⟩, ⟨z12, z13, z14, z15, z16, z17, z18⟩⟩ := kd_all kdP
  obtain ⟨lk, lw⟩ : LNK X c1 c ∧ LOW X u c := by
    obtain ⟨m', e', k', -, lkl, -⟩ := hC.2.1
    exact lkl c rfl
  have P53 : p35.2.i 53 = X.i 53 := by rw [z15, Xi]
  have P6 : p35.2.o c1.2.1 6 = X.o c1.2.1 6 := by rw [z2, Xk 6 (by decide)]
  rw [P6] at epp
  have i53 : (CS.setI (CS.setI p35.2 36 (X.o c1.2.1 6)) 38 (p35.2.i 38 - 1)).i 53 = X.i 53 := by
    rw [ci_ne _ _ _ (by decide), ci_ne _ _ _ (by decide)]
    exact P53
  obtain ⟨pp1, pp2⟩ := e_pop (n := c.1) (by rw [i53]; have := tp.1; have := lk.1; omega) epp
  rw [i53] at pp1 pp2
  -- can
  have can1 : (f_X12_can N u 1).bind (fun p50 => if p50.1 = 0 then some p50.2 else f_X12_trying_417 N p50.2 (u.i 63)) = some V := by
    by_cases k : u.a 67 (ceT c1) = 1
    · rw [if_pos k] at hV
      exact hV
    · rw [if_neg k] at hV
      have k2 : ¬ u.a 72 (ceT c1) < 0 := fun z => by
        have y := lt_int z
        rw [z_t0] at y
        rcases zwh.mp w8 with w | w
        · exact k w
        · omega
      rw [if_neg k2] at hV
      exact hV
  have adr := hC.adr
  by_cases c9 : u.i 10 = 6
  · -- no token: the class goes on for a while
    obtain ⟨p, hp, hV2⟩ := hf_bind can1
    obtain ⟨w1, w2⟩ := y_can6 c9 hp
    rw [if_pos w1] at hV2
    rw [← Option.some.inj hV2] at g3
    right
    left
    refine nd_of hC tp bz (u_flt g3 w2) (R := R.2) (by rw [pp1]; show p35.2.r = X.r; rw [z1, hX]; rfl) (fun y hy => ?_) (by rw [pp1, ci_at]; exact pp2) ?_ ?_
    · rw [pp1]
      show p35.2.o y.2.1 = X.o y.2.1
      rw [z2, hX, so_ne (adr y hy)]
    · rw [pp1]
      show p35.2.i 43 = 6
      rw [z12]
      exact is6.mpr c9
    · rw [pp1]
      show p35.2.i 32 = 0
      have q := (pj2_eq kdP).2.1
      rw [q, ← Xi]
      exact hv.1.1
  rw [y_can1 hv.1.2.1 c9, ob_some, if_neg n10] at can1
  right
  right
  right
  refine ⟨m3, V, g3, ?_⟩
  unfold f_X12_trying_417 at can1
  obtain ⟨V', hV', can1⟩ := hf_bind can1
  rw [Option.some.inj can1] at hV'
  clear can1 hV
  unfold f_X12_endTry at hV'
  obtain ⟨-, hV'⟩ := hf_ite hV'
  rw [tp_nat tu] at hV'
  obtain ⟨-, hV'⟩ := hf_ite hV'
  obtain ⟨σ1, hrs, hV'⟩ := hf_bind hV'
  rw [if_neg (by decide)] at hV'
  obtain ⟨σ0, hσ0⟩ : ∃ y, y = RS.setA (RS.setI (RS.setI u 56 (u.i 56 - 1)) 52 ((RS.setI u 56 (u.i 56 - 1)).i 52 - 1)) 32 ((RS.setI u 56 (u.i 56 - 1)).a 66 (ceT c1)).toNatClampNeg ((RS.setI u 56 (u.i 56 - 1)).i 20) := ⟨_, rfl⟩
  have s0i : ∀ k : Nat, k ≠ 52 → k ≠ 56 → σ0.i k = u.i k := fun k h1 h2 => by
    rw [hσ0]
    exact (if_neg h1).trans (if_neg h2)
  have s056 : σ0.i 56 = u.i 56 - 1 := by rw [hσ0]; rfl
  have s0a : ∀ k : Nat, k ≠ 32 → σ0.a k = u.a k := fun k hk => by
    rw [hσ0]
    exact setA_nk hk
  have s0b : σ0.l = u.l ∧ σ0.b = u.b := by rw [hσ0]; exact ⟨rfl, rfl⟩
  have hrs' : f_X12_resolve N σ0 (u.a 66 (ceT c1)) 1 = some σ1 := by rw [hσ0]; exact hrs
  have hσd := hσ0
  clear hσ0 hrs
  unfold f_X12_resolve at hrs'
  have rx := rs_x N σ0 σ1 0 (by rw [z_t0]; exact Int.le_refl _) hrs'
  rw [z_t0] at rx
  have x6 : X.o c1.2.1 6 = 0 ∨ X.o c1.2.1 6 = 1 := zb
  have s68 : σ1.a 68 (ceT c1) = X.o c1.2.1 6 := by
    rw [rx.1.2.2.2 68 (by decide) (by decide) (by decide), s0a 68 (by decide)]
    exact z68
  have ho : f_X12_over N σ1 (X.o c1.2.1 6) = some V := by
    rw [s68] at hV'
    rcases x6 with z | z
    · rw [if_neg (by rw [z]; decide)] at hV'
      obtain ⟨w, hw, hV'⟩ := hf_bind hV'
      rw [Option.some.inj hV'] at hw
      rw [z]
      exact hw
    · rw [if_pos z] at hV'
      obtain ⟨w, hw, hV'⟩ := hf_bind hV'
      rw [Option.some.inj hV'] at hw
      rw [z]
      exact hw
  unfold f_X12_over at ho
  obtain ⟨-, ho⟩ := hf_ite ho
  have Ve := (Option.some.inj ho).symm
  have t63 : σ1.i 63 = u.i 63 := by rw [rx.1.1, s0i 63 (by decide) (by decide)]
  have tw := tp.2.2
  have nw1 : nWl (X.o c1.2.1 0) = 1 := by rw [X0]; rfl
  have w56 : (u.i 56 - 1).toInt = (ceW c1 : Int) := by
    have e1 : (1 : Int32).toInt = 1 := by decide
    have hi := Int32.toInt_lt (u.i 56)
    rw [toInt_sub] <;> rw [e1] <;> omega
  have ve : E5R u V := by
    refine ⟨fun k h1 h2 h3 h4 => ?_, ?_, ?_, fun k h1 h2 h3 h4 => ?_⟩
    · rw [Ve]
      have z : (RS.setI (RS.setI σ1 75 (X.o c1.2.1 6)) 63 (σ1.i 63 - 1)).i k = σ1.i k := (if_neg h3).trans (if_neg h4)
      rw [z, rx.1.1, s0i k h1 h2]
    · rw [Ve]
      exact rx.1.2.1.trans s0b.1
    · rw [Ve]
      exact rx.1.2.2.1.trans s0b.2
    · rw [Ve]
      show σ1.a k = _
      rw [rx.1.2.2.2 k h2 h3 h4, s0a k h1]
  -- the class with its row still there
  have kdX : pj2 (CS.setO p35.2 c1.2.1 0 305) = pj2 X := by rw [hX, pj2_so, pj2_so, kdP]
  obtain ⟨S5, hS⟩ : ∃ S5, S5 = CS.setO p35.2 c1.2.1 0 305 := ⟨_, rfl⟩
  rw [← hS] at kdX
  have pX := pj2_eq kdX
  obtain ⟨⟨v1, v2, v3, v4⟩, ⟨v5, v6⟩, ⟨v7, v8, v9, v10, v11⟩, ⟨v12, v13, v14, v15, v16, v17, v18⟩⟩ := kd_all kdX
  have hCS : COR d B b t0 (c1 :: c :: L) (-9) S5 u := hC.cx (hC.inl tp (T := ceT c1 + wid (X.o c1.2.1 0)) rfl) (by omega) (hv.kd kdX) (CKX.of pX.1 v8 pX.2.2.2.2.2.2.2.2.2.2.2)
  have tpS : TOP S5 u c1 := ⟨by rw [v15]; exact tp.1, by rw [v2]; exact tp.2.1, by rw [v2]; exact tp.2.2⟩
  have s38 := hCS.2.2.2.2.2.2.2.1.1
  have ed : DSM S5 (c1 :: c :: L) = (nDp (S5.o c1.2.1 0) : Int) + DSM S5 (c :: L) := rfl
  have dp : nDp (S5.o c1.2.1 0) = 1 := by rw [v2, X0]; rfl
  have ds := (PDM.ge S5 (c :: L)).2
  obtain ⟨b38, -⟩ := BAZ.b38 _ bz
  have S38 : S5.i 38 = p35.2.i 38 := by rw [hS]; rfl
  have d38 : (p35.2.i 38 - 1).toInt = (S5.i 38).toInt - 1 := by
    have e1 : (1 : Int32).toInt = 1 := by decide
    have hi := Int32.toInt_lt (p35.2.i 38)
    rw [S38] at s38 ⊢
    rw [toInt_sub] <;> rw [e1] <;> omega
  have Si : S5.i = p35.2.i := by rw [hS]; rfl
  have Sr : S5.r = p35.2.r ∧ S5.ol = p35.2.ol ∧ S5.b = p35.2.b ∧ S5.l = p35.2.l ∧ (S5.hs = p35.2.hs ∧ S5.L = p35.2.L ∧ S5.k = p35.2.k) ∧ S5.a = p35.2.a := by
    rw [hS]
    exact ⟨rfl, rfl, rfl, rfl, ⟨rfl, rfl, rfl⟩, rfl⟩
  have So : ∀ a : Nat, a ≠ c1.2.1 → S5.o a = p35.2.o a := fun a ha => by rw [hS, so_ne ha]
  clear hS
  have key : POPD d B (RS.setI b 19 (b.i 19)) t0 c L R.2 V := by
    refine hCS.remT (σ0 := σ0) (σ1 := σ1) (x2 := 1) (vv := X.o c1.2.1 6) tpS bz hT (by rw [v2]; exact ty) ⟨s0i 59 (by decide) (by decide), by rw [s056]; exact w56⟩ s0a rx ve (by rw [Ve]; show σ1.i 56 = σ0.i 56; rw [rx.1.1]) (by rw [Ve]; rfl) ?_ ⟨by rw [Ve]; rfl, by rw [Ve]; rfl, by rw [Ve]; rfl⟩ (fun k h1 h2 h3 => ?_) x6 ?_ ?_ (by rw [pp1, ci_at]; exact pp2) ?_ (fun a ha => ?_) ?_ (fun i _ => ⟨fun _ => ?_, fun z => absurd z (by decide)⟩) ?_ (w0 := b.i 19) (by rw [v2, X0]; show _ = _ + ((0 : Nat) : Int); omega)
    · rw [Ve]
      show (σ1.i 63 - 1).toInt = _
      rw [t63]
      exact tp_sub tu tt
    · rw [pp1, ci_ne _ _ _ h3, ci_ne _ _ _ h2, ci_ne _ _ _ h1, Si]
    · rw [pp1, ci_ne _ _ _ (by decide), ci_ne _ _ _ (by decide), ci_at]
    · rw [pp1, ci_ne _ _ _ (by decide), ci_at]
      exact d38
    · rw [pp1, Sr.1, Sr.2.1, Sr.2.2.1, Sr.2.2.2.1, Sr.2.2.2.2.1.1, Sr.2.2.2.2.1.2.1, Sr.2.2.2.2.1.2.2]
      exact ⟨rfl, rfl, rfl, rfl, rfl, rfl, rfl⟩
    · rw [pp1, So a ha]
      rfl
    · rw [pp1, Sr.2.2.2.2.2]
      exact ⟨rfl, rfl, rfl, rfl⟩
    · rw [pp1, Sr.2.2.2.2.2]
      rfl
    · rw [v14, v2, Xi, Xk 3 (by decide)]
      exact y50
  rw [rsI_id rfl] at key
  refine ⟨key, fun _ jw crB => ?_⟩
  -- the code
  obtain ⟨m5, s0, ⟨a31, -⟩, hm5, ⟨⟨e43, e59, eK⟩, l19, l11⟩, j0⟩ := jr5 jw crB
  have V2 : ∀ k : Nat, k ≠ 32 → k ≠ 50 → k ≠ 51 → k ≠ 62 → V.a k = u.a k := ve.2.2.2
  have veq : vws R.2 V (c :: L) = vws X u (c :: L) := vws.eqf (T := ceT c1) (fun j _ => by rw [V2 40 (by decide) (by decide) (by decide) (by decide)]) (c :: L) (fun y hy => hC.o3 y (List.mem_cons_of_mem _ hy)) (fun y hy => by
    rw [pp1]
    show p35.2.o y.2.1 = X.o y.2.1
    rw [z2, hX, so_ne (adr y hy)]) (fun k t h1 h2 h3 => by rw [V2 k (by omega) (by omega) (by omega) (by omega)]) (fun y hy => by
    have z1 := (hC.inlB tp y hy).2.2.1
    have z2 := wid1 (X.o y.2.1 0)
    omega)
  rw [veq]
  obtain ⟨nd, nd2, ⟨yb, b0⟩, k30, k37, wts⟩ := hC.tys (σ0 := σ0) tp bz ty (by rw [s056]; exact w56) s0a
  have cky := clampI (show 0 ≤ (u.a 66 (ceT c1)).toInt by omega)
  obtain ⟨E, hE⟩ : ∃ E, E = u.i 52 - 1 := ⟨_, rfl⟩
  obtain ⟨v, hvd⟩ : ∃ v, v = X.i 38 - 1 := ⟨_, rfl⟩
  rw [← hE, ← hvd] at j0
  have f66 : (vw X u c1).2.1 66 = u.a 66 (ceT c1) := vw_at (k := 66) ⟨by decide, by decide⟩
  have f72 : (vw X u c1).2.1 72 = u.a 72 (ceT c1) := vw_at (k := 72) ⟨by decide, by decide⟩
  rw [f66] at a31
  have h44Y : (Y.i 44).toInt ≤ 900 := by
    rw [← Xi, hv.p44.1]
    exact (i11_hi hv).2
  have u900 := (i11_hi hv).2
  have j1 := j0.drp (R := CS.setI Y 38 v) (u := RS.setI u 52 E) (by rw [hX]; rfl) (by rw [hX]; rfl) (by rw [hX]; rfl) (by rw [hX]; rfl) (by rw [hX]; rfl) rfl (Int.le_refl _) rfl
  obtain ⟨r6, hr6⟩ : ∃ r6 : RVW, r6 = (fun k => if k = 0 then 216 else X.o c1.2.1 k, (vw X u c1).2) := ⟨_, rfl⟩
  have r6v : r6.v = 216 := by rw [hr6]; rfl
  have r6k : ∀ k : Nat, k ≠ 0 → r6.1 k = X.o c1.2.1 k := fun k hk => by rw [hr6]; exact if_neg hk
  have r62 : r6.2 = (vw X u c1).2 := by rw [hr6]
  clear hr6
  have t5 : isTyv (vw X u c1) := Or.inr (Or.inr (Or.inl X0))
  have t6 : isTyv r6 := Or.inr (Or.inr (Or.inr r6v))
  have p5 : ¬ (vw X u c1).2.2.1 = 0 := by
    show ¬ c1.1 = 0
    have := lk.1
    omega
  have p6 : ¬ r6.2.2.1 = 0 := by rw [r62]; exact p5
  have r66 : r6.2.1 66 = u.a 66 (ceT c1) := by rw [r62]; exact f66
  have r672 : r6.2.1 72 = u.a 72 (ceT c1) := by rw [r62]; exact f72
  have e6 : rtgs r6 = [r6.1 9] := by
    unfold rtgs
    rw [r6v, if_neg (by decide), if_pos (by decide)]
  have etl : rtgs (vw X u c1) = [X.o c1.2.1 11] ++ rtgs r6 := by
    rw [e6, r6k 9 (by decide)]
    unfold rtgs
    rw [show (vw X u c1).v = 305 from X0, if_neg (by decide), if_neg (by decide), if_neg (by decide), if_neg (by decide), if_pos rfl]
    rfl
  have j2 := j1.rl5 (r6 := r6) (tl := [X.o c1.2.1 11]) t5 t6 p5 (fun z => by
    rw [r6v] at z
    unfold isWl at z
    exact absurd z (by decide)) ⟨by rw [r6v]; decide, by rw [r6v]; decide⟩ ⟨by rw [r62], by rw [r62], by rw [r62], r6k 2 (by decide), r6k 9 (by decide), r6k 11 (by decide)⟩ etl
  have j3 := JRG.ded (x := X.o c1.2.1 11) (W := [r6]) (r6 := r6) (K' := fun FC SF nm X0 ω j Z => ((cTg SF (X.o c1.2.1 11)).toInt < 0 ∧ TGT3 r6) ∧ K5 U (vw X u c1) (u.a 30 (u.a 66 (ceT c1)).toNatClampNeg) (pcC X) m5 FC SF nm X0 ω j Z) j2 ⟨List.mem_cons_self, t6, p6, r6k 11 (by decide), by
    show r6.1 9 ∈ rtgs r6 ++ ptl (vws X u (c :: L))
    rw [e6]
    exact List.mem_cons_self⟩ h44Y (by omega) (fun FC SF nm X0 ω j Z h t k => ⟨⟨h, t⟩, k⟩)
  have j4 := j3.add (add_sh (D := v) e30) h44Y (by omega)
  have erj : rjw [r6] = [r6] := rjw.y ⟨show isTy r6.v from t6, p6⟩
  have j5 := j4.s30 (k := 32) (y := (u.a 66 (ceT c1)).toNatClampNeg) (v := u.i 20) (Or.inr (Or.inr rfl)) (by omega) (by
    rw [erj]
    exact ⟨r6, List.mem_cons_self, t6, by rw [r66]; exact cky⟩) (fun q hq tq z => (nd q hq tq).1 (by
    have z1 := clampI (nd q hq tq).2
    exact Int32.toInt_inj.mp (by omega)))
  have s1i : ∀ k : Nat, k ≠ 52 → k ≠ 56 → σ1.i k = u.i k := fun k h1 h2 => by rw [rx.1.1]; exact s0i k h1 h2
  have s1a : ∀ k : Nat, k ≠ 32 → k ≠ 50 → k ≠ 51 → k ≠ 62 → σ1.a k = u.a k := fun k h1 h2 h3 h4 => by rw [rx.1.2.2.2 k h2 h3 h4, s0a k h1]
  have s52 : σ1.i 52 = E := by
    rw [rx.1.1, hσd, hE]
    rfl
  have s132 : σ1.a 32 = (RS.setA (RS.setI u 52 E) 32 (u.a 66 (ceT c1)).toNatClampNeg (u.i 20)).a 32 := by
    rw [rx.1.2.2.2 32 (by decide) (by decide) (by decide), hσd]
    rfl
  have s5a : ∀ k : Nat, k ≠ 32 → (RS.setA (RS.setI u 52 E) 32 (u.a 66 (ceT c1)).toNatClampNeg (u.i 20)).a k = u.a k := fun k hk => setA_nk hk
  have du : D52 (RS.setA (RS.setI u 52 E) 32 (u.a 66 (ceT c1)).toNatClampNeg (u.i 20)) σ1 := by
    have q : ∀ k : Nat, k ≠ 32 → k ≠ 50 → k ≠ 51 → k ≠ 62 → σ1.a k = (RS.setA (RS.setI u 52 E) 32 (u.a 66 (ceT c1)).toNatClampNeg (u.i 20)).a k := fun k h1 h2 h3 h4 => by rw [s1a k h1 h2 h3 h4, s5a k h1]
    exact ⟨⟨s1i 20 (by decide) (by decide), s1i 24 (by decide) (by decide), s1i 29 (by decide) (by decide), s1i 33 (by decide) (by decide), s1i 42 (by decide) (by decide)⟩, q 21 (by decide) (by decide) (by decide) (by decide), q 22 (by decide) (by decide) (by decide) (by decide), q 23 (by decide) (by decide) (by decide) (by decide), q 25 (by decide) (by decide) (by decide) (by decide), q 26 (by decide) (by decide) (by decide) (by decide), q 27 (by decide) (by decide) (by decide) (by decide), q 28 (by decide) (by decide) (by decide) (by decide), q 30 (by decide) (by decide) (by decide) (by decide), q 31 (by decide) (by decide) (by decide) (by decide), s132, q 34 (by decide) (by decide) (by decide) (by decide), q 35 (by decide) (by decide) (by decide) (by decide), q 36 (by decide) (by decide) (by decide) (by decide), q 37 (by decide) (by decide) (by decide) (by decide)⟩
  have j6 := j5.cty (r6 := r6) (σ0 := σ0) (σ1 := σ1) (u := σ1) (x2 := 1) (y := (u.a 66 (ceT c1)).toNatClampNeg) t6 e6 p6 (fun q hq tq => by rw [r66]; exact (nd q hq tq).1) (fun q hq tq => by rw [r672]; exact nd2 q hq tq) (fun q hq => by rw [r62]; exact vws.pl hC q hq) ⟨by rw [r66]; exact cky.symm, by omega⟩ ⟨(s0i 59 (by decide) (by decide)).trans e59, fun k hk => (s0a k (by omega)).trans (eK k hk)⟩ (by rw [r66]; exact rx) ⟨(s1i 43 (by decide) (by decide)).trans e43, (s1i 59 (by decide) (by decide)).trans e59, fun _ _ => rfl⟩ du ⟨s1i 38 (by decide) (by decide), by rw [s1a 40 (by decide) (by decide) (by decide) (by decide), s5a 40 (by decide)], s52⟩ (by rw [s1i 11 (by decide) (by decide)]; exact l11) (by rw [s1i 19 (by decide) (by decide)]; exact l19) wts (fun z => absurd z (by decide))
  have po9 : p30.2.o c1.2.1 9 = r6.1 9 := by
    rw [r6k 9 (by decide), Xk 9 (by decide)]
    unfold f_X0_add at e30
    cases e30
    rfl
  have l944 : (CS.setI p30.2 38 v).i 44 = Y.i 44 := by
    unfold f_X0_add at e30
    cases e30
    rfl
  rw [po9] at e35
  have j7 := JRG.aim (W1 := []) (W2 := []) (K' := fun FC SF nm X0 ω j Z => (cTg SF (r6.1 9)).toInt = ((pcC (CS.setI p30.2 38 v) : Nat) : Int) ∧ (((U.a 30 (u.a 66 (ceT c1)).toNatClampNeg = σ1.a 30 (u.a 66 (ceT c1)).toNatClampNeg ∧ U.a 31 (u.a 66 (ceT c1)).toNatClampNeg = σ1.a 31 (u.a 66 (ceT c1)).toNatClampNeg ∧ U.a 32 (u.a 66 (ceT c1)).toNatClampNeg = σ1.a 32 (u.a 66 (ceT c1)).toNatClampNeg) ∧ (0 ≤ (r6.2.1 72).toInt → U.a 37 (r6.2.1 72).toNatClampNeg = σ1.a 37 (r6.2.1 72).toNatClampNeg) ∧ (FC (u.a 66 (ceT c1)).toNatClampNeg ↔ ¬ (1 : Int32) = 0)) ∧ (SF.a 15 (pcC (CS.setI Y 38 v)) = 58 ∧ SF.a 16 (pcC (CS.setI Y 38 v)) = 0 ∧ pcC (CS.setI Y 38 v) < 1200 ∧ pcC (CS.setI p30.2 38 v) = pcC (CS.setI Y 38 v) + 1) ∧ ((cTg SF (X.o c1.2.1 11)).toInt < 0 ∧ TGT3 r6) ∧ K5 U (vw X u c1) (u.a 30 (u.a 66 (ceT c1)).toNatClampNeg) (pcC X) m5 FC SF nm X0 ω j Z)) j6 (aim_sh (D := v) e35) (by rw [l944]; exact h44Y) (by omega) (fun FC SF nm X0 ω j Z h k => ⟨h, k⟩)
  have pX : pcC (CS.setI Y 38 v) = pcC X := by
    unfold pcC
    rw [Xi]
    rfl
  have p35p : pcC (CS.setI p35.2 38 v) = pcC (CS.setI p30.2 38 v) := by
    unfold f_X0_aim at e35
    cases e35
    rfl
  have e38 : p35.2.i 38 - 1 = v := by rw [z11, hvd, Xi]
  refine (j7.popv (R := R.2) (V := V) (v := X.o c1.2.1 6) (by omega) (Or.inl (by omega)) (by rw [pp1, e38]; rfl) (by rw [pp1]; rfl) (by rw [pp1]; rfl) (by rw [pp1]; rfl) (by rw [pp1]; rfl) (by rw [pp1]; rfl) (by rw [Ve]; rfl) (by rw [Ve]; exact Int.le_refl _) (by rw [Ve]; rfl) (fun y hy gy => ?_) (by rw [Ve]; exact ⟨rfl, rfl, rfl, rfl, rfl, rfl, rfl, rfl⟩) (by rw [Ve]; rfl) (by rw [Ve]; exact Int.le_refl _) (by rw [Ve]; exact Int.le_refl _) (fun FC SF nm X0 ω j Z hω r12 hcc k cur => ?_)) crB
  · have g1 := hC.gis y hy gy
    have g2 := tp.2.1
    have g3 : V.i 43 = u.i 43 := ve.1 43 (by decide) (by decide) (by decide) (by decide)
    rw [g3]
    omega
  · obtain ⟨ct, ⟨⟨u30, u31, u32⟩, u37, -⟩, ⟨s15, -, sp, pe1⟩, ⟨d11, t3⟩, k5⟩ := k
    rw [pX] at s15 sp pe1
    rw [p35p] at cur
    have t9 := t3.1
    have t11 := t3.2.1
    rw [r6k 9 (by decide), r6k 11 (by decide)] at t9
    rw [r6k 11 (by decide)] at t11
    have ck9 := clampI (show 0 ≤ (X.o c1.2.1 9).toInt by omega)
    refine k5 ⟨1, by omega, sp, Or.inl ⟨s15, ?_⟩⟩ (Or.inl ⟨?_, fun a ha => ?_⟩) (fun h6 _ => ⟨pcC (CS.setI p30.2 38 v), pcR σ1, ?_, ?_, (cur h6).1⟩) (fun _ => by rw [f66, u30, s1a 30 (by decide) (by decide) (by decide) (by decide)])
    · unfold khd
      rw [f66, f72]
      by_cases z : (u.a 72 (ceT c1)).toInt < 0
      · rw [if_pos z, u30, s1a 30 (by decide) (by decide) (by decide) (by decide)]
        exact k30 z
      · rw [if_neg z]
        rw [r672] at u37
        rw [u37 (by omega), s1a 37 (by decide) (by decide) (by decide) (by decide)]
        exact k37 (by omega)
    · show (U.a 31 ((vw X u c1).2.1 66).toNatClampNeg).toInt < 0
      rw [f66, u31, s1a 31 (by decide) (by decide) (by decide) (by decide)]
      exact a31
    · have ha' : a.toInt = (((X.o c1.2.1 9).toNatClampNeg - 2 : Nat) : Int) := ha
      have lt9 := Int32.toInt_lt (X.o c1.2.1 9)
      have ea : a + 1 = X.o c1.2.1 11 := Int32.toInt_inj.mp (by
        rw [ad1 (by omega) (by omega)]
        omega)
      rw [ea]
      exact d11
    · rw [r6k 9 (by decide)] at ct
      exact ct
    · rw [f66, u32, s132, setA_at]
      have z1 := hv.p20.1
      unfold pcR
      rw [s1i 20 (by decide) (by decide)]
      omega
