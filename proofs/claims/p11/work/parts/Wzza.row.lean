/-! both readers: for over a row -/
theorem nc_kd {N : Nat} {S : CS} {x : Int32} {a : Int32 × CS} (e : f_X0_newCells N S x = some a) : pj2 a.2 = pj2 S := kd_X0_newCells N S x a e
theorem WAY.kd {d : Int32} {T : Nat} {p f k y z : Int} {S P R : CS} {s q : RS} (h : WAY d T p f k y z S s P q) (e : pj2 R = pj2 P) : WAY d T p f k y z S s R q := by
  have kp := pj2_eq e
  exact (h.cx (p1 := 0) (f1 := 0) (k1 := 0) (h.1.kd e) h.2.1 (FRB.rf _ _) (TBK.rf _) (CKX.of kp.1 kp.2.2.2.2.1 kp.2.2.2.2.2.2.2.2.2.2.2) ⟨by omega, by omega, Int.le_refl _, by omega⟩).nu (by omega) (by omega) (by omega) (by omega) (by omega)
/-- good here, with a row of values open, gives Z -/
def JQE (U : RS) (δ x y p q : Nat) (Z : JKT) : JKT := fun FC SF nm X ω j z => (∀ g : Nat, GU FC SF U nm X p q j.h (ω + j.l + δ - p) g ((4, j.h, x, y, 0, 0, 0) :: j.c)) → Z FC SF nm X ω j z
/-- the row's values are there -/
def RWJ (JJ : Prop) (A : JBA) (U : RS) (B : CS) (b : RS) (V0 : List RVW) (s : RS) (W0 : List RVW) (W : Int32 × CS) (u : RS) : Prop := JJ → ∃ cnt : Int32, 0 ≤ cnt.toInt ∧ cnt.toInt ≤ 900 ∧ JRG A U B b V0 s (cv W.1 cnt :: W0) (JAN (JRO W.1 cnt) (JQE U 1264 W.1.toNatClampNeg cnt.toNatClampNeg (pcC W.2) (pcR u) JQZ)) (-5) (-2) W.2 u
/-- the values of a row: from behind one of them -/
theorem ro_vals {N : Nat} (hN : 1000 ≤ N) {E1 : CS → Option (Unit × CS)} {E2 : CS → Option (Int32 × CS)} (hm1 : ∀ σ, Kf (CS.i σ 32) (E1 σ)) (hm2 : ∀ σ, Kf (CS.i σ 32) (E2 σ)) (hE : SXR N 18 E1) {d : Int32} {T : Nat} {S : CS} {s U : RS} {v71 : Int32} {l : Int64} {JJ : Prop} {A : JBA} {B : CS} {b : RS} {V0 W0 : List RVW} (hph : 0 ≤ phI s) (hs11 : 0 ≤ (s.i 11).toInt) : ∀ (n : Nat) (P : CS) (q : RS) (m : Nat) (x1 x2 : Int32) (W : Int32 × CS) (mm : Nat), (x1.toInt = (mm : Int) ∧ q.a 68 T + 1 = x1) → (s.i 11).toInt + 7 + 2 * (mm : Int) ≤ (q.i 11).toInt → (JJ → JRG A U B b V0 s W0 (JQG U 1264 mm 0 (pcC P) (pcR q) JQZ) (-7 - (mm : Int)) (-6 - 2 * (mm : Int)) P q) → WAY d T 9 15 1 (-4) 3 S s P q → q.a 64 T = 12 → q.a 65 T = 10 → q.a 71 T = v71 → q.b 74 T = l → 0 ≤ x2.toInt → x2.toInt ≤ (q.i 11).toInt → f_X7_rowValues_31 N E1 E2 n P x1 x2 = some W → f_X12_parse_10 N m q = some U → (¬ W.2.i 32 = 0 ∧ ¬ U.i 15 = 0) ∨ ∃ (m : Nat) (u : RS), f_X12_parse_10 N m u = some U ∧ WAY d T 9 14 1 (-4) 3 S s W.2 u ∧ u.a 64 T = 12 ∧ u.a 65 T = 12 ∧ u.a 71 T = v71 ∧ u.b 74 T = l ∧ RWJ JJ A U B b V0 s W0 W u
  | 0, _, _, _, _, _, _, _, _, _, _, _, _, _, _, _, _, _, e, _ => by cases e
  | n + 1, P, q, m, x1, x2, W, mm, hmm, h2m, jg, w, k64, k65, k71, k74, hx0, hx, e, g => by
    have e' : b_X7_rowValues_31 N E1 E2 (f_X7_rowValues_31 N E1 E2 n) P x1 x2 = some W := e
    unfold b_X7_rowValues_31 at e'
    have i44 := tk_is w.1 (a := 44) (b := 44) (Or.inl ⟨by decide, by decide⟩) (by decide)
    obtain ⟨m2, V, hV, g2⟩ := rl_12 g w.2.1 w.1.1.2.1 k64
    unfold f_X12_fors at hV
    obtain ⟨-, hV⟩ := hf_ite hV
    rw [tp_nat w.2.1, if_neg (show ¬ q.a 65 T = 0 by rw [k65]; decide), if_neg (show ¬ q.a 65 T = 1 by rw [k65]; decide), if_neg (show ¬ q.a 65 T = 2 by rw [k65]; decide), if_neg (show ¬ q.a 65 T = 3 by rw [k65]; decide), if_neg (show ¬ q.a 65 T = 4 by rw [k65]; decide), if_neg (show ¬ q.a 65 T = 5 by rw [k65]; decide), if_neg (show ¬ q.a 65 T = 6 by rw [k65]; decide), if_neg (show ¬ q.a 65 T = 7 by rw [k65]; decide), if_neg (show ¬ q.a 65 T = 8 by rw [k65]; decide), ob_id] at hV
    unfold f_X12_rows at hV
    obtain ⟨-, hV⟩ := hf_ite hV
    rw [tp_nat w.2.1, if_pos k65] at hV
    have w1 := w.sa (j := 68) (v := q.a 68 T + 1) ⟨by omega, by omega⟩
    have np := w1.2.2.2.2.2.2.1.2.1
    by_cases c : P.i 43 = 44
    · -- one more
      have k := i44.mp c
      have n9 : ¬ (900 : Int32) ≤ x2 := fun z => by
        have := no_900 w.1 hx z
        rw [c] at this
        exact absurd this (by decide)
      rw [if_neg n9] at e'
      rw [if_pos k] at hV
      obtain ⟨v, ev, e'⟩ := hf_bind e'
      obtain ⟨av, eav, hv⟩ := e_skip1 c ev
      rw [hv, if_neg n10] at e'
      obtain ⟨p28, e28, e'⟩ := hf_bind e'
      obtain ⟨nx, hnx, hV⟩ := hf_bind hV
      rw [ob_id] at hV
      obtain ⟨w2, f2⟩ := w1.nx hN (by rw [c]; decide) eav hnx
      have np2 := w2.2.2.2.2.2.2.1.2.1
      have n112 := w2.2.2.2.2.2.2.1.1
      rcases y_expr hN hm1 hm2 hE w2.1 w2.2.1 (by omega) e28 hV g2 with ⟨z1, z2⟩ | ⟨m3, u, g3, xo, xc⟩
      · refine Or.inl ⟨?_, z2⟩
        rw [kF_X7_rowValues_31 N E1 E2 hm1 hm2 n p28.2 _ _ W e' z1]
        exact z1
      have w3 := w2.exo xo
      obtain ⟨ft2, -⟩ := FRB.ft (T := T) f2
      obtain ⟨ft3, u65⟩ := xo.ft
      have ft := ft2.tr ft3
      have q11 : (q.i 11).toInt + 1 ≤ (u.i 11).toInt := by
        have z1 : ((RS.setA q 68 T (q.a 68 T + 1)).i 11).toInt + 1 ≤ (nx.i 11).toInt := (y_nx hN w1.1 w1.2.1 (by rw [c]; decide) eav hnx).2.2.2.2.2.1
        have z2 := xo.2.2.2.2.2.2.1
        have z3 : (RS.setA q 68 T (q.a 68 T + 1)).i 11 = q.i 11 := rfl
        rw [z3] at z1
        omega
      have x21 : (x2 + 1).toInt = x2.toInt + 1 := ad1 hx0 (by have := (i11_hi w.1).2; omega)
      have m11 := (i11_hi w.1).2
      have x11 : (x1 + 1).toInt = x1.toInt + 1 := ad1 (by omega) (by omega)
      have q11' : (q.i 11).toInt + 2 ≤ (u.i 11).toInt := by
        have z1 : ((RS.setA q 68 T (q.a 68 T + 1)).i 11).toInt + 1 ≤ (nx.i 11).toInt := (y_nx hN w1.1 w1.2.1 (by rw [c]; decide) eav hnx).2.2.2.2.2.1
        have z2 := xo.2.2.2.2.2.2.1
        have z3 : (RS.setA q 68 T (q.a 68 T + 1)).i 11 = q.i 11 := rfl
        rw [z3] at z1
        omega
      have nx11 : (q.i 11).toInt + 1 ≤ (nx.i 11).toInt := (y_nx hN w1.1 w1.2.1 (by rw [c]; decide) eav hnx).2.2.2.2.2.1
      have nx19 := w2.l19
      have e68 : u.a 68 T = x1 := (ft.2.2.2.1.trans setA_at).trans hmm.2
      have pca : pcC av.2 = pcC P := pcC.pe (ke_X9_advance N P av eav)
      have prn : pcR nx = pcR q := pcR.qe (kre_f_X12_next N (RS.setA q 68 T (q.a 68 T + 1)) nx hnx)
      have jg' : JJ → JRG A U B b V0 s W0 (JQG U 1264 (mm + 1) 0 (pcC p28.2) (pcR u) JQZ) (-7 - ((mm + 1 : Nat) : Int)) (-6 - 2 * ((mm + 1 : Nat) : Int)) p28.2 u := fun hJ => by
        have j1 := ((jg hJ).se (u := RS.setA q 68 T (q.a 68 T + 1)) rfl ⟨rfl, fun _ _ => rfl⟩).adv hN w1.1 (by rw [c]; decide) eav hnx
        have j2 := j1.imp (a1 := -8 - (mm : Int)) (e1 := -7 - 2 * (mm : Int)) (K' := JAN JTT (JQA U 1264 mm (pcC av.2) (pcR nx) JQZ)) (by omega) (by omega) (fun _ _ _ _ _ _ _ _ _ _ _ _ _ k => ⟨True.intro, fun q => k (by rw [← pca, ← prn]; exact q 0)⟩)
        have j3 := j2.frm w2.1 xo xc (by omega) (by omega) (by omega) (by omega) (by omega)
        exact j3.imp (by omega) (by omega) (fun _ _ _ _ _ _ _ _ _ _ _ _ _ k => k.2)
      exact ro_vals hN hm1 hm2 hE hph hs11 n p28.2 u m3 (x1 + 1) (x2 + 1) W (mm + 1) ⟨by omega, by rw [e68]⟩ (by omega) jg' (w3.nu (by omega) (by omega) (by omega) (by omega) (by omega)) (ft.1.trans k64) u65 (ft.2.2.2.2.2.2.1.trans k71) (by
        rw [xo.2.2.1.2.2.2.2.2.2.2.2.2.2, (f2 (T + 1) T (by omega)).2.2.2.2.2.2.2.2.2.2]
        exact k74) (by omega) (by omega) e' g3
    · -- the last one
      have k : ¬ q.i 10 = 44 := fun z => c (i44.mpr z)
      rw [if_neg k] at hV
      obtain ⟨em, hem, hV⟩ := hf_bind hV
      cases hV
      have e60 : f_X7_rowValues_60 N E1 E2 P x1 = some W := by
        by_cases n9 : (900 : Int32) ≤ x2
        · rw [if_pos n9] at e'
          exact e'
        · rw [if_neg n9, e_skip0 c, ob_some, if_pos rfl] at e'
          exact e'
      unfold f_X7_rowValues_60 at e60
      obtain ⟨a, ea, e60⟩ := hf_bind e60
      obtain ⟨a2, ea2, e60⟩ := hf_bind e60
      obtain ⟨a3, ea3, e60⟩ := hf_bind e60
      cases e60
      obtain ⟨w2, f2, -, -, -⟩ := w1.em (by omega) hem
      obtain ⟨ft2, -⟩ := FRB.ft (T := T) f2
      have w3 : WAY d T 9 14 1 (-4) 3 S s a3.2 (RS.setA em.2 65 T 12) := ((((w2.kd (nc_kd ea)).ad ea2).ad ea3).sa (j := 65) (v := 12) ⟨by omega, by omega⟩).nu (by omega) (by omega) (by omega) (by omega) (by omega)
      refine Or.inr ⟨m2, _, g2, w3, ft2.1.trans k64, setA_at, ft2.2.2.2.2.2.2.1.trans k71, ?_, fun hJ => ?_⟩
      · show em.2.b 74 T = l
        rw [(f2 (T + 1) T (by omega)).2.2.2.2.2.2.2.2.2.2]
        exact k74
      · have m11 := (i11_hi w.1).2
        have e2' : (2 : Int32).toInt = 2 := by decide
        have nn : (2 + x1).toInt = 2 + (mm : Int) := by
          rw [toInt_add] <;> rw [e2', hmm.1] <;> omega
        have nc : (2 + x1 - 2).toInt = (mm : Int) := by
          rw [toInt_sub] <;> rw [e2', nn] <;> omega
        have g44 : (P.i 44).toInt = (q.i 11).toInt := by rw [w.1.p44.1]
        have ia : a.2.i 44 = P.i 44 ∧ a.2.i 20 = P.i 20 := by
          unfold f_X0_newCells at ea
          cases ea
          exact ⟨rfl, rfl⟩
        have ia2 : a2.2.i 44 = a.2.i 44 := by
          unfold f_X0_add at ea2
          cases ea2
          rfl
        have p20 := w.1.p20
        have j1 := (jg hJ).ncl ea (by omega) (by omega) (by omega) (by omega)
        have j2 := (j1.add ea2 (by rw [ia.1]; omega) (by omega)).add ea3 (by rw [ia2, ia.1]; omega) (by omega)
        have j3 := (j2.se (u := RS.setA q 68 T (q.a 68 T + 1)) rfl ⟨rfl, fun _ _ => rfl⟩).emt hem ⟨p20.1, by show (q.i 20).toInt < 3000; omega⟩
        have pca : pcC a.2 = pcC P := by unfold pcC; rw [ia.2]
        have j4 := j3.imp (a1 := -5) (e1 := -2) (K' := JAN (JRO a.1 (2 + x1 - 2)) (JQE U 1264 a.1.toNatClampNeg (2 + x1 - 2).toNatClampNeg (pcC a3.2) (pcR em.2) JQZ)) (by omega) (by omega) (fun FC SF nm X ω j Z hc hh tyc tl hω r12 k => by
          obtain ⟨⟨u1, u2, u3, u4, u5⟩, ⟨s1, s2, s3, s4⟩, ⟨t1, t2, t3, t4⟩, c2, ro, kk⟩ := k
          have c1 : 0 ≤ a.1.toInt := ro.1
          have u1' : U.a 21 (pcR q) = 23 := u1
          have u2' : U.a 22 (pcR q) = q.a 68 T + 1 := u2.trans (if_pos rfl)
          have u4' : ((pcR q : Nat) : Int) < (U.i 20).toInt ∧ (U.i 20).toInt ≤ 3000 := u4
          have u5' : pcR em.2 = pcR q + 1 := u5
          rw [t4] at s1 s2 s3 s4
          rw [pca] at s1 s2 s3 s4 t1 t2 t3
          refine ⟨ro, fun gu => kk ?_⟩
          have pq : PQX SF U (pcC P) (pcR q) := ⟨t3, u4'⟩
          have g0 := gu 0
          rw [s4, u5'] at g0
          have cb := clampI c1
          have cm := clampI (show 0 ≤ (2 + x1 - 2).toInt by omega)
          have em' : (2 + x1 - 2).toNatClampNeg = mm := by omega
          rw [em'] at g0
          exact gi_URow (pq.hc (hc.up (Nat.le_add_right _ _))) pq.2.1 ⟨⟨t1, s1, s3, u1'⟩, mm, a.1.toNatClampNeg, j.h, ⟨by rw [t2]; exact hmm.1, by rw [u2', hmm.2]; exact hmm.1, by rw [s2]; exact cb.symm⟩, ⟨rfl, by omega, by omega⟩, ω + j.l + 1264 - (pcC P + 1 + 1), by omega, g0⟩)
        exact ⟨2 + x1 - 2, by omega, by omega, j4.se (u := RS.setA em.2 65 T 12) rfl ⟨rfl, fun _ _ => rfl⟩⟩
/-- from the colon on -/
theorem ro_val {N : Nat} (hN : 1000 ≤ N) {E1 : CS → Option (Unit × CS)} {E2 : CS → Option (Int32 × CS)} (hm1 : ∀ σ, Kf (CS.i σ 32) (E1 σ)) (hm2 : ∀ σ, Kf (CS.i σ 32) (E2 σ)) (hE : SXR N 18 E1) {d : Int32} {T n : Nat} {S P : CS} {s q V U : RS} {v71 : Int32} {l : Int64} {W : Int32 × CS} {JJ : Prop} {A : JBA} {B : CS} {b : RS} {V0 W0 : List RVW} (hph : 0 ≤ phI s) (hs11 : 0 ≤ (s.i 11).toInt) (k3 : JJ → 4 ≤ (U.i 3).toInt) (jg : JJ → JRG A U B b V0 s W0 (JQA U 1264 0 (pcC P) (pcR q) JQZ) (-8) (-7) P q) (w : WAY d T 8 14 1 (-4) 3 S s P q) (k64 : q.a 64 T = 12) (k71 : q.a 71 T = v71) (k74 : q.b 74 T = l) (e : f_X7_rowValues N E1 E2 P = some W) (hV : (if (q.i 10) = 434 then (f_X12_next N q).bind fun p45 => (f_X12_emit N p45 20 1).bind fun p47 => some (RS.setA p47.2 65 T 12) else (f_X12_then N (RS.setA q 68 T 0) 10 16).bind fun p43 => some p43) = some V) (g : f_X12_parse_10 N n V = some U) : (¬ W.2.i 32 = 0 ∧ ¬ U.i 15 = 0) ∨ ∃ (m : Nat) (u : RS), f_X12_parse_10 N m u = some U ∧ WAY d T 9 14 1 (-4) 3 S s W.2 u ∧ u.a 64 T = 12 ∧ u.a 65 T = 12 ∧ u.a 71 T = v71 ∧ u.b 74 T = l ∧ RWJ JJ A U B b V0 s W0 W u := by
  unfold f_X7_rowValues at e
  have i434 := tk_is w.1 (a := 224) (b := 434) (Or.inr ⟨by decide, by decide⟩) (by decide)
  have np := w.2.2.2.2.2.2.1.2.1
  by_cases c : P.i 43 = 224
  · have k := i434.mp c
    rw [if_pos k] at hV
    obtain ⟨v, ev, e⟩ := hf_bind e
    obtain ⟨av, eav, hv⟩ := e_skip1 c ev
    rw [hv, if_neg n10] at e
    obtain ⟨th, eth, e⟩ := hf_bind e
    obtain ⟨a, ea, e⟩ := hf_bind e
    cases e
    unfold f_X7_throwNull at eth
    obtain ⟨t1, et1, eth⟩ := hf_bind eth
    obtain ⟨t2, et2, eth⟩ := hf_bind eth
    cases eth
    obtain ⟨nx, hnx, hV⟩ := hf_bind hV
    obtain ⟨em, hem, hV⟩ := hf_bind hV
    cases hV
    obtain ⟨w1, f1⟩ := w.nx hN (by rw [c]; decide) eav hnx
    have np1 := w1.2.2.2.2.2.2.1.2.1
    obtain ⟨w2, f2, -, -, -⟩ := w1.em (by omega) hem
    obtain ⟨ft1, -⟩ := FRB.ft (T := T) f1
    obtain ⟨ft2, -⟩ := FRB.ft (T := T) f2
    have ft := ft1.tr ft2
    have w3 : WAY d T 9 14 1 (-4) 3 S s a.2 (RS.setA em.2 65 T 12) := ((((w2.ad et1).ad et2).kd (nc_kd ea)).sa (j := 65) (v := 12) ⟨by omega, by omega⟩).nu (by omega) (by omega) (by omega) (by omega) (by omega)
    refine Or.inr ⟨n, _, g, w3, ft.1.trans k64, setA_at, ft.2.2.2.2.2.2.1.trans k71, ?_, fun hJ => ?_⟩
    · show em.2.b 74 T = l
      rw [(f2 (T + 1) T (by omega)).2.2.2.2.2.2.2.2.2.2, (f1 (T + 1) T (by omega)).2.2.2.2.2.2.2.2.2.2]
      exact k74
    · have g44 : (av.2.i 44).toInt = (nx.i 11).toInt := by rw [w1.1.p44.1]
      have g6 := (i11_hi w1.1).2
      have p20 := w1.1.p20
      have i1 : t1.2.i 44 = av.2.i 44 := by
        unfold f_X0_add at et1
        cases et1
        rfl
      have i2 : t2.2.i 44 = t1.2.i 44 := by
        unfold f_X0_add at et2
        cases et2
        rfl
      have j1 := (jg hJ).adw hN w.1 (by rw [c]; decide) eav hnx
      have j2 := (j1.add et1 (by omega) (by omega)).add et2 (by rw [i1]; omega) (by omega)
      have j3 := j2.emt hem ⟨p20.1, by omega⟩
      have pca : pcC av.2 = pcC P := pcC.pe (ke_X9_advance N P av eav)
      have prn : pcR nx = pcR q := pcR.qe (kre_f_X12_next N q nx hnx)
      have k3' := k3 hJ
      have j4 := j3.imp (a1 := -8) (e1 := -9) (K' := JQZ) (by omega) (by omega) (fun FC SF nm X ω j Z hc hh tyc tl hω r12 k => by
        obtain ⟨⟨u1, u2, u3, u4, u5⟩, ⟨s1, s2, s3, s4⟩, ⟨t1', t2', t3', t4'⟩, kk⟩ := k
        rw [t4'] at s1 s2 s3
        have pq : PQX SF U (pcC av.2) (pcR nx) := ⟨t3', u4⟩
        have l11 := w.l11
        have h9 := (i11_hi w.1).2
        have e1' : (1 : Int32).toInt = 1 := by decide
        exact kk (fun g => by
          rw [← pca, ← prn]
          exact gi_URa0 (pq.hc hc) pq.2.1 ⟨ω + j.t, by omega, by omega, tyc, t1', t2', s1, s3, u1, by rw [s2, u2], by rw [s2, e1']; omega, by rw [s2, e1']; omega⟩))
      have j5 := j4.ncl ea (by decide) (by show (-9 : Int) + 2 * (2 : Int32).toInt ≤ 200; decide) (by decide) (by rw [i2, i1]; omega)
      have e2 : (2 : Int32).toInt = 2 := by decide
      exact ⟨2 - 2, by decide, by decide, (j5.imp (a1 := -5) (e1 := -2) (K' := JAN (JRO a.1 (2 - 2)) (JQE U 1264 a.1.toNatClampNeg (2 - 2 : Int32).toNatClampNeg (pcC a.2) (pcR em.2) JQZ)) (by omega) (by rw [e2]; omega) (fun _ _ _ _ _ _ _ _ _ _ _ _ _ k => ⟨k.2.1, fun _ => k.2.2⟩)).se (u := RS.setA em.2 65 T 12) rfl ⟨rfl, fun _ _ => rfl⟩⟩
  · have k : ¬ q.i 10 = 434 := fun z => c (i434.mpr z)
    rw [if_neg k, ob_id] at hV
    rw [e_skip0 c, ob_some] at e
    have e' : ((f_X1_expression N E1 E2 P).bind fun p6 => f_X7_rowValues_31 N E1 E2 N p6.2 1 0) = some W := (if_pos rfl).symm.trans e
    obtain ⟨p6, e6, e'⟩ := hf_bind e'
    have w1 := w.sa (j := 68) (v := 0) ⟨by omega, by omega⟩
    have np1 := w1.2.2.2.2.2.2.1.2.1
    rcases y_expr hN hm1 hm2 hE w1.1 w1.2.1 (by omega) e6 hV g with ⟨z1, z2⟩ | ⟨m3, u, g3, xo, xc⟩
    · refine Or.inl ⟨?_, z2⟩
      rw [kF_X7_rowValues_31 N E1 E2 hm1 hm2 N p6.2 _ _ W e' z1]
      exact z1
    have w3 := w1.exo xo
    obtain ⟨ft, u65⟩ := xo.ft
    have e68 : u.a 68 T = 0 := ft.2.2.2.1.trans setA_at
    have l11 := w1.l11
    have l19 := w1.l19
    have x11 := xo.2.2.2.2.2.2.1
    have jg' : JJ → JRG A U B b V0 s W0 (JQG U 1264 1 0 (pcC p6.2) (pcR u) JQZ) (-7 - ((1 : Nat) : Int)) (-6 - 2 * ((1 : Nat) : Int)) p6.2 u := fun hJ => by
      have j1 := ((jg hJ).se (u := RS.setA q 68 T 0) rfl ⟨rfl, fun _ _ => rfl⟩).imp (a1 := -8) (e1 := -7) (K' := JAN JTT (JQA U 1264 0 (pcC P) (pcR (RS.setA q 68 T 0)) JQZ)) (by omega) (by omega) (fun _ _ _ _ _ _ _ _ _ _ _ _ _ k => ⟨True.intro, k⟩)
      have j3 := j1.frm w1.1 xo xc (by omega) (by omega) (by omega) (by omega) (by omega)
      exact j3.imp (by omega) (by omega) (fun _ _ _ _ _ _ _ _ _ _ _ _ _ k => k.2)
    exact ro_vals hN hm1 hm2 hE hph hs11 N p6.2 u m3 1 0 W 1 ⟨by decide, by rw [e68]; decide⟩ (by omega) jg' (w3.nu (by omega) (by omega) (by omega) (by omega) (by omega)) (ft.1.trans k64) u65 (ft.2.2.2.2.2.2.1.trans k71) (by
      rw [xo.2.2.1.2.2.2.2.2.2.2.2.2.2]
      exact k74) (by decide) (by rw [z_t0]; exact (i11_hi w3.1).1) e' g3
