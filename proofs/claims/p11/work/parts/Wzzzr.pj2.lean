/-! both readers: what is told of the class, setter by setter -/
def st36 (f : Int32) (v : PJT2) : PJT2 := (((v.1.1.1, v.1.1.2.1, v.1.1.2.2.1, v.1.1.2.2.2.1, v.1.1.2.2.2.2.1, v.1.1.2.2.2.2.2.1, v.1.1.2.2.2.2.2.2.1, v.1.1.2.2.2.2.2.2.2.1, v.1.1.2.2.2.2.2.2.2.2.1, v.1.1.2.2.2.2.2.2.2.2.2.1, f, v.1.1.2.2.2.2.2.2.2.2.2.2.2.1, v.1.1.2.2.2.2.2.2.2.2.2.2.2.2.1, v.1.1.2.2.2.2.2.2.2.2.2.2.2.2.2.1, v.1.1.2.2.2.2.2.2.2.2.2.2.2.2.2.2.1, v.1.1.2.2.2.2.2.2.2.2.2.2.2.2.2.2.2.1, v.1.1.2.2.2.2.2.2.2.2.2.2.2.2.2.2.2.2.1, v.1.1.2.2.2.2.2.2.2.2.2.2.2.2.2.2.2.2.2), v.1.2), v.2)
theorem pj2_36 (S : CS) (f : Int32) : pj2 (CS.setI S 36 f) = st36 f (pj2 S) := rfl
def st38 (f : Int32) (v : PJT2) : PJT2 := (((v.1.1.1, v.1.1.2.1, v.1.1.2.2.1, v.1.1.2.2.2.1, v.1.1.2.2.2.2.1, v.1.1.2.2.2.2.2.1, v.1.1.2.2.2.2.2.2.1, v.1.1.2.2.2.2.2.2.2.1, v.1.1.2.2.2.2.2.2.2.2.1, v.1.1.2.2.2.2.2.2.2.2.2.1, v.1.1.2.2.2.2.2.2.2.2.2.2.1, v.1.1.2.2.2.2.2.2.2.2.2.2.2.1, f, v.1.1.2.2.2.2.2.2.2.2.2.2.2.2.2.1, v.1.1.2.2.2.2.2.2.2.2.2.2.2.2.2.2.1, v.1.1.2.2.2.2.2.2.2.2.2.2.2.2.2.2.2.1, v.1.1.2.2.2.2.2.2.2.2.2.2.2.2.2.2.2.2.1, v.1.1.2.2.2.2.2.2.2.2.2.2.2.2.2.2.2.2.2), v.1.2), v.2)
theorem pj2_38 (S : CS) (f : Int32) : pj2 (CS.setI S 38 f) = st38 f (pj2 S) := rfl
def st50 (f : Int32) (v : PJT2) : PJT2 := (((v.1.1.1, v.1.1.2.1, v.1.1.2.2.1, v.1.1.2.2.2.1, v.1.1.2.2.2.2.1, v.1.1.2.2.2.2.2.1, v.1.1.2.2.2.2.2.2.1, v.1.1.2.2.2.2.2.2.2.1, v.1.1.2.2.2.2.2.2.2.2.1, v.1.1.2.2.2.2.2.2.2.2.2.1, v.1.1.2.2.2.2.2.2.2.2.2.2.1, v.1.1.2.2.2.2.2.2.2.2.2.2.2.1, v.1.1.2.2.2.2.2.2.2.2.2.2.2.2.1, f, v.1.1.2.2.2.2.2.2.2.2.2.2.2.2.2.2.1, v.1.1.2.2.2.2.2.2.2.2.2.2.2.2.2.2.2.1, v.1.1.2.2.2.2.2.2.2.2.2.2.2.2.2.2.2.2.1, v.1.1.2.2.2.2.2.2.2.2.2.2.2.2.2.2.2.2.2), v.1.2), v.2)
theorem pj2_50 (S : CS) (f : Int32) : pj2 (CS.setI S 50 f) = st50 f (pj2 S) := rfl
def st53 (f : Int32) (v : PJT2) : PJT2 := (((v.1.1.1, v.1.1.2.1, v.1.1.2.2.1, v.1.1.2.2.2.1, v.1.1.2.2.2.2.1, v.1.1.2.2.2.2.2.1, v.1.1.2.2.2.2.2.2.1, v.1.1.2.2.2.2.2.2.2.1, v.1.1.2.2.2.2.2.2.2.2.1, v.1.1.2.2.2.2.2.2.2.2.2.1, v.1.1.2.2.2.2.2.2.2.2.2.2.1, v.1.1.2.2.2.2.2.2.2.2.2.2.2.1, v.1.1.2.2.2.2.2.2.2.2.2.2.2.2.1, v.1.1.2.2.2.2.2.2.2.2.2.2.2.2.2.1, f, v.1.1.2.2.2.2.2.2.2.2.2.2.2.2.2.2.2.1, v.1.1.2.2.2.2.2.2.2.2.2.2.2.2.2.2.2.2.1, v.1.1.2.2.2.2.2.2.2.2.2.2.2.2.2.2.2.2.2), v.1.2), v.2)
theorem pj2_53 (S : CS) (f : Int32) : pj2 (CS.setI S 53 f) = st53 f (pj2 S) := rfl
def st34 (f : Int32) (v : PJT2) : PJT2 := (v.1, (v.2.1.1, v.2.1.2.1, f, v.2.1.2.2.2), v.2.2)
theorem pj2_34 (S : CS) (f : Int32) : pj2 (CS.setI S 34 f) = st34 f (pj2 S) := rfl
/-- the same but for what is not told -/
theorem POPD.kd {d : Int32} {B : CS} {b : RS} {t0 : Nat} {c : CEL} {L : List CEL} {X R : CS} {u : RS} (h : POPD d B b t0 c L X u) (e : pj2 R = pj2 X) (hT : t0 ≤ ceT c + wid (X.o c.2.1 0)) : POPD d B b t0 c L R u := by
  have pe := pj2_eq e
  obtain ⟨⟨z1, z2, z3, z4⟩, ⟨z5, z6⟩, ⟨z7, z8, z9, z10, z11⟩, ⟨z12, z13, z14, z15, z16, z17, z18⟩⟩ := kd_all e
  obtain ⟨h1, h2, h3⟩ := h
  refine ⟨h1.cx (h1.inl h2 rfl) hT (h1.1.kd e) (CKX.of pe.1 z8 pe.2.2.2.2.2.2.2.2.2.2.2), ⟨by rw [z15]; exact h2.1, by rw [z2]; exact h2.2.1, by rw [z2]; exact h2.2.2⟩, ?_⟩
  unfold MOR MLI MEN NMC at *
  rw [z2, z10, z14]
  exact h3
/-- whether the row on top is gone to, where records and row are the same -/
theorem y_goneX {N : Nat} {d : Int32} {B : CS} {b : RS} {t0 : Nat} {L : List CEL} {x bb : Int} {S X : CS} {s : RS} {c1 : CEL} {xc : Int32} {P : Int32 × CS} (hC : COR d B b t0 (c1 :: L) x S s) (gw : isGo (S.o c1.2.1 0)) (hb : (xc = 0 ∧ bb = 0) ∨ (xc = 1 ∧ bb = 1)) (e1 : X.o c1.2.1 1 = S.o c1.2.1 1) (e14 : X.o c1.2.1 14 = S.o c1.2.1 14) (l55 : (S.i 55).toInt ≤ (X.i 55).toInt) (h160 : (X.i 55).toInt < 160) (o52 : ∀ k : Nat, (k : Int) < (S.i 55).toInt → X.a 52 k = S.a 52 k) (n52 : ∀ k : Nat, (S.i 55).toInt ≤ (k : Int) → (k : Int) < (X.i 55).toInt → X.a 52 k = 0 ∨ 2 * (S.i 54).toInt + 1 < (X.a 52 k).toInt) (e : f_X6_isGoneTo N X c1.2.1 xc = some P) : P.2 = X ∧ P.1 = flg s (ceG c1) bb := by
  have hv := hC.1
  obtain ⟨sj1, sj2, sj3, sj4, sj5, sj6⟩ := id hv.sj
  have hi := i11_hi hv
  obtain ⟨h1, h2, -, -, -, -, h7, h8⟩ := id hC.2.2.1
  obtain ⟨k1, k2, k3, k4, -⟩ := h7 c1 List.mem_cons_self
  have ord := STK.ord L c1 _ _ _ hC.2.1
  unfold f_X6_isGoneTo at e
  obtain ⟨-, e⟩ := hf_ite e
  obtain ⟨r1, r2⟩ := y_gone5 hb (by rw [e1]; exact ⟨by omega, by omega⟩) h160 N _ P (by rw [e14]; exact k3) e
  refine ⟨r1, ?_⟩
  have hb' : bb = 0 ∨ bb = 1 := by
    rcases hb with ⟨-, z⟩ | ⟨-, z⟩
    · exact Or.inl z
    · exact Or.inr z
  rcases r2 with ⟨r2, i, i1, i2, i3⟩ | ⟨r2, r3⟩
  · rw [r2]
    rw [e1] at i3
    have i4 : (i : Int) < (S.i 55).toInt := by
      by_cases z : (i : Int) < (S.i 55).toInt
      · exact z
      · exfalso
        rcases n52 i (by omega) i2 with y | y
        · rw [y, z_t0] at i3
          omega
        · omega
    rw [o52 i i4] at i3
    rcases h1 c1 List.mem_cons_self gw bb hb' i ⟨i4, i3, by rw [← e14]; exact i1⟩ with z | ⟨k, q, hq, -, l, -⟩
    · exact z.symm
    · exfalso
      rcases List.mem_cons.mp hq with e0 | hq
      · rw [e0] at l
        omega
      · have := ord q hq
        omega
  · rw [r2]
    rcases h8.2 c1 List.mem_cons_self gw bb with z | z
    · exact z.symm
    · obtain ⟨i, ⟨i1, i2, -⟩, i3, -⟩ := h2 c1 List.mem_cons_self gw bb hb' z
      exact absurd (by rw [o52 i i1, e1]; exact i2) (r3 i (by rw [e14]; exact i3) (by omega))
theorem FRE.mv2 {S R : CS} {s u : RS} {L : List CEL} {col : Nat → Option (Nat × Bool)} {b20 : Int} {k : Nat} (h : FRE S s L col b20 k) (eo : ∀ q ∈ L, R.o q.2.1 = S.o q.2.1) (e : ∀ q ∈ L, u.a 66 (ceT q) = s.a 66 (ceT q)) : FRE R u L col b20 k := ⟨h.1, h.2.1, fun q hq t => by
  rw [e q hq]
  exact h.2.2 q hq (by rw [← eo q hq]; exact t)⟩
theorem cfl.le {S : CS} {s : RS} : ∀ (L : List CEL) (m e k : Int), STK S s L m e k → cfl S L m ≤ m
  | [], _, _, _, _ => Int.le_refl _
  | c :: L, m, e, k, h => by
    obtain ⟨m', e', k', ⟨-, -, -, q4, q5, -, -⟩, -, h3⟩ := h
    have z := cfl.le L _ _ _ h3
    have e1 : cfl S (c :: L) m = cfl S L (if S.o c.2.1 0 = 218 then (S.o c.2.1 13).toInt else m) := rfl
    rw [e1]
    by_cases w : S.o c.2.1 0 = 218
    · obtain ⟨x1, -, -, Lx, x4, -⟩ := q5 w
      rw [if_pos w, ← x1]
      have := x4.2.1
      omega
    · rw [if_neg w, ← (q4 w).1]
      exact z
theorem rsI_bk {r : RS} {k : Nat} {v w : Int32} (h : r.i k = v) : RS.setI (RS.setI r k w) k v = r := by
  have e : va_up (va_up r.i k w) k v = r.i := by
    funext j
    show (if j = k then v else if j = k then w else r.i j) = r.i j
    by_cases z : j = k
    · rw [if_pos z, z, h]
    · rw [if_neg z, if_neg z]
  show ((va_up (va_up r.i k w) k v, r.l, r.a, r.b) : RS) = r
  rw [e]
  rfl
/-- a switch goes -/
theorem COR.dropS {d : Int32} {B : CS} {b : RS} {t0 : Nat} {L : List CEL} {x : Int} {S : CS} {s : RS} {c1 c : CEL} (h : COR d B b t0 (c1 :: c :: L) x S s) (h218 : S.o c1.2.1 0 = 218) {w : Int32} (hw : w.toInt = (b.i 19).toInt + 1) : COR d B (RS.setI b 19 w) t0 (c :: L) (-9) (CS.setI S 22 (S.o c1.2.1 13)) s ∧ (∀ y ∈ c :: L, isGo (S.o y.2.1 0) → ¬ ceG y = ceG c1) ∧ (∀ y ∈ c :: L, y.1 < c1.1) ∧ LNK S c1 c ∧ LOW S s c ∧ (0 ≤ (S.o c1.2.1 13).toInt ∧ (S.o c1.2.1 13).toInt ≤ (S.i 22).toInt) := by
  obtain ⟨h1, h2, h3, h4, h5, h6, ⟨h10, h11, h12, hsg⟩, h13, h14, h17, ⟨h18, h19, h20, col, h21⟩⟩ := h
  have ord := STK.ord (c :: L) c1 _ _ _ h2
  obtain ⟨inj1, inj2⟩ := STK.inj (c1 :: c :: L) _ _ _ h2
  have nt : ¬ isTy (S.o c1.2.1 0) := by
    rw [h218]
    unfold isTy
    decide
  have inj : ∀ y ∈ c :: L, isGo (S.o y.2.1 0) → ¬ ceG y = ceG c1 := fun y hy g z => by
    have := (inj2 y (List.mem_cons_of_mem _ hy) c1 List.mem_cons_self (ord y hy)).2.1
    have := nGo1 g
    omega
  have st := STK.drop h2
  rw [if_pos h218] at st
  have e1 : PDM S (c1 :: c :: L) = dbt (S.o c1.2.1 0) + PDM S (c :: L) := rfl
  have e2 : DSM S (c1 :: c :: L) = (nDp (S.o c1.2.1 0) : Int) + DSM S (c :: L) := rfl
  have e4 : dbt (S.o c1.2.1 0) = 0 ∧ nDp (S.o c1.2.1 0) = 0 := by
    rw [h218]
    exact ⟨rfl, rfl⟩
  rw [e1, e4.1] at h11
  rw [e2, e4.2] at h13
  obtain ⟨h13, h13b⟩ := h13
  have cf : cfl S (c :: L) (S.o c1.2.1 13).toInt = (B.i 22).toInt := by
    have z := h13b.2.2.1
    have e3 : cfl S (c1 :: c :: L) (S.i 22).toInt = cfl S (c :: L) (if S.o c1.2.1 0 = 218 then (S.o c1.2.1 13).toInt else (S.i 22).toInt) := rfl
    rw [e3, if_pos h218] at z
    exact z
  have cle := cfl.le (c :: L) _ _ _ st
  obtain ⟨m', e', k', g1, g2, g3⟩ := h2
  obtain ⟨l1, l2⟩ := g2 c rfl
  have o13 : 0 ≤ (S.o c1.2.1 13).toInt ∧ (S.o c1.2.1 13).toInt ≤ (S.i 22).toInt := by
    obtain ⟨x1, -, -, Lx, x4, -⟩ := g1.2.2.2.2.1 h218
    have := x4.1
    have := x4.2.1
    omega
  obtain ⟨f, hf⟩ : ∃ f : Int32, f = S.o c1.2.1 13 := ⟨_, rfl⟩
  rw [← hf] at cf cle o13 st ⊢
  have eo : ∀ y ∈ c :: L, (CS.setI S 22 f).o y.2.1 = S.o y.2.1 := fun _ _ => rfl
  obtain ⟨ed, ep⟩ := DSM.eq (c :: L) eo
  have jq : JMQ (CS.setI S 22 f) s (c :: L) (b.i 59).toInt (b.i 29).toInt := h3.drop nt ord
  have lb : LBC (CS.setI S 22 f) s (c :: L) (-9) := LBC.mv (c :: L) (-9) h4.drop eo (fun _ _ _ => rfl)
  have cl : COL (CS.setI S 22 f) s (c :: L) (cdr (ceG c1) col) (b.i 20).toInt := h21.drop inj
  have stv : STK (CS.setI S 22 f) s (c :: L) f.toInt (s.i 24).toInt (s.i 33).toInt := STK.eo (S := S) (R := CS.setI S 22 f) rfl rfl (c :: L) _ _ _ (fun _ _ => ⟨rfl, rfl⟩) st
  have cfv : cfl (CS.setI S 22 f) (c :: L) f.toInt = (B.i 22).toInt := (cfl.eq (c :: L) _ eo).trans cf
  have cb : CBB B (CS.setI S 22 f) := by
    obtain ⟨a1, a2, a3, a4, a5, a6⟩ := h5
    exact ⟨a1, a2, a3, by show (B.i 22).toInt ≤ f.toInt; omega, a5, a6⟩
  have e5 : SSM S (c1 :: c :: L) = (nSg (S.o c1.2.1 0) : Int) + SSM S (c :: L) := rfl
  have e6 : nSg (S.o c1.2.1 0) = 1 := by rw [h218]; rfl
  rw [e5, e6] at hsg
  have hsw : (s.i 19).toInt = w.toInt + SSM (CS.setI S 22 f) (c :: L) := by rw [SSM.eo (c :: L) eo]; omega
  have hph : phI b + PDM (CS.setI S 22 f) (c :: L) ≤ phI s := by
    rw [ep]
    omega
  have hds : (S.i 38).toInt = (B.i 38).toInt + DSM (CS.setI S 22 f) (c :: L) := by
    rw [ed]
    omega
  exact ⟨⟨h1.s22 o13.1 o13.2, stv, jq, lb, cb, h6, ⟨h10, hph, h12, hsw⟩, ⟨hds, fun y hy => h13b.1 y (List.mem_cons_of_mem _ hy), fun y hy z hz => h13b.2.1 y (List.mem_cons_of_mem _ hy) z (List.mem_cons_of_mem _ hz), cfv, fun y hy => h13b.2.2.2 y (List.mem_cons_of_mem _ hy)⟩, h14, h17, ⟨h18, h19, h20, _, cl⟩⟩, inj, ord, l1, l2, o13⟩
