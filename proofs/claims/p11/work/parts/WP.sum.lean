/-! both readers: a piece of a formula -/
/-- what a piece of reading keeps of the class -/
def CKX (S R : CS) : Prop := (R.i 22 = S.i 22 ∧ R.i 36 = S.i 36 ∧ R.i 38 = S.i 38 ∧ R.i 50 = S.i 50 ∧ R.i 53 = S.i 53 ∧ R.i 56 = S.i 56) ∧ (∀ k : Nat, (k : Int) < (S.i 53).toInt → R.r 51 k = S.r 51 k) ∧ (∀ k a : Nat, (k : Int) < (S.i 53).toInt → S.r 51 k = some a → R.o a = S.o a ∧ R.ol a = S.ol a) ∧ (∀ k : Nat, (k : Int) < (S.i 22).toInt → R.a 18 k = S.a 18 k) ∧ (S.i 54).toInt ≤ (R.i 54).toInt ∧ (S.i 55).toInt ≤ (R.i 55).toInt ∧ (∀ k : Nat, (k : Int) < (S.i 55).toInt → R.a 52 k = S.a 52 k) ∧ (∀ k : Nat, (S.i 55).toInt ≤ (k : Int) → (k : Int) < (R.i 55).toInt → R.a 52 k = 0 ∨ (2 * (S.i 54).toInt + 1 < (R.a 52 k).toInt ∧ (R.a 52 k).toInt ≤ 2 * (R.i 54).toInt + 1)) ∧ (R.i 21).toInt + 2 * (S.i 44).toInt ≤ (S.i 21).toInt + 2 * (R.i 44).toInt ∧ (R.i 54).toInt + (S.i 44).toInt ≤ (S.i 54).toInt + (R.i 44).toInt ∧ 6 * (R.i 55).toInt + (S.i 44).toInt ≤ 6 * (S.i 55).toInt + (R.i 44).toInt
theorem CKX.rf (S : CS) : CKX S S := ⟨⟨rfl, rfl, rfl, rfl, rfl, rfl⟩, fun _ _ => rfl, fun _ _ _ _ => ⟨rfl, rfl⟩, fun _ _ => rfl, Int.le_refl _, Int.le_refl _, fun _ _ => rfl, fun k h1 h2 => absurd h2 (by omega), Int.le_refl _, Int.le_refl _, Int.le_refl _⟩
theorem CKX.tr {S R T : CS} (h : CKX S R) (g : CKX R T) : CKX S T := by
  obtain ⟨⟨a1, a2, a3, a4, a5, a6⟩, b1, b2, b3, b4, b5, b6, b7, b8⟩ := h
  obtain ⟨⟨c1, c2, c3, c4, c5, c6⟩, d1, d2, d3, d4, d5, d6, d7, d8⟩ := g
  refine ⟨⟨c1.trans a1, c2.trans a2, c3.trans a3, c4.trans a4, c5.trans a5, c6.trans a6⟩, fun k hk => (d1 k (by rw [a5]; exact hk)).trans (b1 k hk), fun k a hk ha => ?_, fun k hk => (d3 k (by rw [a1]; exact hk)).trans (b3 k hk), Int.le_trans b4 d4, Int.le_trans b5 d5, fun k hk => (d6 k (by omega)).trans (b6 k hk), fun k h1 h2 => ?_, by omega, by omega, by omega⟩
  · have e := b2 k a hk ha
    have f := d2 k a (by rw [a5]; exact hk) ((b1 k hk).trans ha)
    exact ⟨f.1.trans e.1, f.2.trans e.2⟩
  · by_cases c : (k : Int) < (R.i 55).toInt
    · rw [d6 k c]
      rcases b7 k h1 c with z | z
      · exact Or.inl z
      · exact Or.inr ⟨z.1, by omega⟩
    · rcases d7 k (by omega) h2 with z | z
      · exact Or.inl z
      · exact Or.inr ⟨by omega, z.2⟩
theorem CKX.of {S R : CS} (h : pj R = pj S) (e22 : R.i 22 = S.i 22) (e18 : A18 S R) : CKX S R := by
  obtain ⟨-, -, -, -, -, -, -, -, -, -, i36, -, i38, i50, i53, i54, i55, i56, -, -, -, -, a52, er, eo, eol, -, i21, -⟩ := pj_eq h
  refine ⟨⟨e22, i36, i38, i50, i53, i56⟩, fun k _ => by rw [er], fun k a _ _ => ⟨by rw [eo], by rw [eol]⟩, fun k _ => by rw [e18.1], by rw [i54]; exact Int.le_refl _, by rw [i55]; exact Int.le_refl _, fun k _ => by rw [a52], fun k h1 h2 => ?_, by rw [i21]; have := e18.2; omega, by rw [i54]; have := e18.2; omega, by rw [i55]; have := e18.2; omega⟩
  rw [i55] at h2
  omega
theorem CKX.r21 {S R : CS} (h : CKX S R) : (R.i 21).toInt + 2 * (S.i 44).toInt ≤ (S.i 21).toInt + 2 * (R.i 44).toInt := h.2.2.2.2.2.2.2.2.1
theorem pj_21 {S R : CS} (h : pj R = pj S) : R.i 21 = S.i 21 := congrArg (fun v : PJT => v.2.2.2.2.2.2.1) h
theorem pj_54 {S R : CS} (h : pj R = pj S) : R.i 54 = S.i 54 := congrArg (fun v : PJT => v.1.2.2.2.2.2.2.2.2.2.2.2.2.2.2.2.1) h
/-- a target more -/
theorem nt_i {N : Nat} {S : CS} {w : Int32 × CS} (e : f_X0_newTarget N S = some w) : w.2.i 32 = S.i 32 ∧ w.2.i 43 = S.i 43 ∧ w.2.i 44 = S.i 44 ∧ w.2.i 22 = S.i 22 ∧ w.2.a 18 = S.a 18 ∧ w.2.i 21 = S.i 21 + 1 := by
  unfold f_X0_newTarget at e
  cases e
  exact ⟨rfl, rfl, rfl, rfl, rfl, rfl⟩
theorem CKX.nt {N : Nat} {S R : CS} {w : Int32 × CS} (e : f_X0_newTarget N S = some w) (g : CKX w.2 R) (h : (R.i 21).toInt + 2 * (S.i 44).toInt ≤ (S.i 21).toInt + 2 * (R.i 44).toInt) : CKX S R := by
  unfold f_X0_newTarget at e
  cases e
  obtain ⟨g1, g2, g3, g4, g5, g6, g7, g8, -, g9⟩ := g
  exact ⟨g1, g2, g3, g4, g5, g6, g7, g8, h, g9⟩
theorem CKX.sum {S R : CS} (h : CKX S R) (w : RWI S) : SGS R (cnI R).toNat = SGS S (cnI S).toNat ∧ WCS R (cnI R).toNat = WCS S (cnI S).toNat := by
  have h0 := w.2.2.2.1
  refine sum_eq h0.2 (fun i hi => ?_) h.1.2.2.2.2.1
  have hi' : (i : Int) < (S.i 53).toInt := by
    have : cnI S = (S.i 53).toInt := rfl
    omega
  exact ⟨h.2.1 i hi', fun a ha => h.2.2.1 i a hi' ha⟩
theorem sg_room {d0 d : Int32} {S P : CS} {s u : RS} (h0 : ENV d0 S s) (h1 : ENV d P u) (ck : CKX S P) (hu : (s.i 19).toInt + 1 ≤ (u.i 19).toInt) : SGS P (cnI P).toNat + 1 ≤ sgI P := by
  have w := h0.ri
  rw [(ck.sum w).1]
  have e0 := h0.2.2.1.1
  have e1 := h1.2.2.1.1
  have := w.2.2.2.2.2.2
  unfold sgI at *
  rw [e0] at this
  rw [e1]
  omega
/-- a frame of a formula is done in both -/
def XO (d : Int32) (t : Nat) (S : CS) (s : RS) (R : CS) (u : RS) : Prop := ENV d R u ∧ tpI u = (t : Int) - 1 ∧ FRB t s u ∧ TBK s u ∧ CKX S R ∧ (s.i 11).toInt + 1 ≤ (u.i 11).toInt ∧ phI s + 1 ≤ phI u ∧ (s.i 17).toInt + 1 ≤ (u.i 17).toInt ∧ u.i 19 = s.i 19
def SXR {α : Type} (N : Nat) (K : Int32) (E : CS → Option (α × CS)) : Prop := ∀ (d : Int32) (S : CS) (s U : RS) (n t : Nat) (R : α × CS), ENV d S s → tpI s = t → s.a 64 t = K → s.a 65 t = 0 → 3 ≤ phI s → E S = some R → f_X12_parse_10 N n s = some U → (¬ R.2.i 32 = 0 ∧ ¬ U.i 15 = 0) ∨ ∃ (m : Nat) (u : RS), f_X12_parse_10 N m u = some U ∧ XO d t S s R.2 u ∧ CDE 0 U S s R.2 u
/-- a frame more -/
theorem r_then {N : Nat} {s V : RS} {t : Nat} {a b : Int32} (ht : tpI s = t) (h : f_X12_then N s a b = some V) : V = TH s t a b ∧ t + 1 < 1000 := by
  have h2 : (s.i 63).toInt = (t : Int) := ht
  have en : (s.i 63).toNatClampNeg = t := by
    show (s.i 63).toInt.toNat = t
    rw [h2]; exact Int.toNat_natCast _
  unfold f_X12_then f_X12_push at h
  obtain ⟨i1, h⟩ := hf_ite h
  obtain ⟨p, h3, h⟩ := hf_bind h
  obtain ⟨i2, h3⟩ := hf_ite h3
  cases h
  cases h3
  have i1' := i1.2
  have e1 : ((RS.setA s 65 (s.i 63).toNatClampNeg a).i 63 + 1).toInt = (t : Int) + 1 := tp_add (u := s) ht (by omega)
  have e2 : ((RS.setA s 65 (s.i 63).toNatClampNeg a).i 63 + 1).toNatClampNeg = t + 1 := by
    show ((RS.setA s 65 (s.i 63).toNatClampNeg a).i 63 + 1).toInt.toNat = t + 1
    rw [e1]
    omega
  have i2' := i2.2
  rw [e1] at i2'
  refine ⟨?_, by omega⟩
  rw [e2, en]
  rfl
theorem TH.frb {s : RS} {t : Nat} {a b : Int32} : FRB t s (TH s t a b) := fun j hj => ⟨TH.fk0 (by omega), (if_neg (by omega)).trans (if_neg (by omega)), rfl, rfl, rfl, rfl, rfl, rfl, rfl, rfl, rfl⟩
theorem TH.tbk {s : RS} {t : Nat} {a b : Int32} : TBK s (TH s t a b) := ⟨⟨⟨rfl, rfl, rfl, rfl, rfl, rfl, rfl, rfl, rfl, rfl⟩, fun _ _ => ⟨rfl, rfl, rfl⟩, fun _ _ => ⟨rfl, rfl, rfl, rfl, rfl, rfl, rfl, rfl⟩, fun _ _ => ⟨rfl, rfl⟩, ⟨Int.le_refl _, fun j h1 h2 => absurd (show (j : Int) < (s.i 59).toInt from h2) (by omega)⟩, fun _ _ => ⟨rfl, rfl, rfl⟩, Int.le_refl _, fun _ _ => rfl, Int.le_refl _, fun _ _ => ⟨rfl, rfl⟩, Int.le_refl _, fun _ _ => ⟨rfl, rfl, rfl⟩⟩, Int.le_refl _, fun _ _ => rfl⟩
theorem ENV.th {d : Int32} {S : CS} {s : RS} {t : Nat} {a b : Int32} (h : ENV d S s) : ENV d S (TH s t a b) := h.kq rfl rfl rfl rfl rfl rfl rfl rfl rfl rfl rfl rfl rfl rfl rfl rfl rfl rfl rfl rfl ⟨h.2.2.2.2.2.2.1, h.2.2.2.2.2.2.2.1⟩ (h.wp.of (Int.le_refl _) rfl rfl rfl rfl rfl)
/-- the frame goes -/
theorem pop_env {d : Int32} {S : CS} {s : RS} {v : Int32} (h : ENV d S s) : ENV d S (RS.setI s 63 v) := h.kq rfl rfl rfl rfl rfl rfl rfl rfl rfl rfl rfl rfl rfl rfl rfl rfl rfl rfl rfl rfl ⟨h.2.2.2.2.2.2.1, h.2.2.2.2.2.2.2.1⟩ (h.wp.of (Int.le_refl _) rfl rfl rfl rfl rfl)
theorem pop_tbk {s : RS} {v : Int32} : TBK s (RS.setI s 63 v) := ⟨⟨⟨rfl, rfl, rfl, rfl, rfl, rfl, rfl, rfl, rfl, rfl⟩, fun _ _ => ⟨rfl, rfl, rfl⟩, fun _ _ => ⟨rfl, rfl, rfl, rfl, rfl, rfl, rfl, rfl⟩, fun _ _ => ⟨rfl, rfl⟩, ⟨Int.le_refl _, fun j h1 h2 => absurd (show (j : Int) < (s.i 59).toInt from h2) (by omega)⟩, fun _ _ => ⟨rfl, rfl, rfl⟩, Int.le_refl _, fun _ _ => rfl, Int.le_refl _, fun _ _ => ⟨rfl, rfl⟩, Int.le_refl _, fun _ _ => ⟨rfl, rfl, rfl⟩⟩, Int.le_refl _, fun _ _ => rfl⟩
theorem pop_frb {s : RS} {t : Nat} {v : Int32} : FRB t s (RS.setI s 63 v) := fun _ _ => ⟨rfl, rfl, rfl, rfl, rfl, rfl, rfl, rfl, rfl, rfl, rfl⟩
/-- an instruction more -/
theorem em_env {N : Nat} {d : Int32} {S : CS} {s : RS} {o x : Int32} {V : Int32 × RS} (h : ENV d S s) (hp : 1 ≤ phI s) (g : f_X12_emit N s o x = some V) : ENV d S V.2 ∧ TBK s V.2 ∧ qj2 V.2 = qj2 s ∧ phI V.2 = phI s - 1 ∧ V.1 = s.i 20 ∧ (V.2.i 20).toInt = (s.i 20).toInt + 1 := by
  obtain ⟨k1, k2⟩ := kq_emit g
  obtain ⟨kq, e10, e11, e12, e14, e15, e16, e17, e19, el⟩ := qj2_eq k1
  obtain ⟨h1, h2, h3, h4, h5, h6, ⟨r1, r2, r3, r4, r5, -⟩⟩ := id h
  have b5 := h1.2.2.2.2.1
  have b3 := h1.2.2.1.2.1
  have b4 := h1.2.2.2.2.2.2.1.2.1
  have k11 := h1.2.2.2.1.1
  have k12 := h1.2.2.2.1.2.1
  rw [k11, k12] at b4
  have lt : (s.i 20).toInt < 3000 := by
    unfold phI at hp
    omega
  obtain ⟨v1, v2, v3⟩ := k2 ⟨r1, lt⟩
  obtain ⟨j2, j3, -, j18, -, -, -, j38, -, -, -, j53, j54, j55, -, -, -, -, x1, x4, -, -, -, -, -, -, -, -, x41, -, -, -, -, -, -, -, -, -, -, -, -, -, -, -, -, -, -, -, -, -, -, y9, y39, -, -⟩ := qj_eq kq
  have ph : phI V.2 = phI s - 1 := by
    unfold phI
    rw [e17, v2]
    omega
  exact ⟨h.kq j38 j2 j3 j18 j53 j54 j55 x1 x4 x41 y9 y39 e10 e11 e12 e14 e15 e17 e19 el ⟨by omega, by omega⟩ (h.wp.kp kq), TBK.of kq (by omega) v3, k1, ph, v1, v2⟩
/-- the place of the token -/
theorem ENV.p44 {d : Int32} {S : CS} {s : RS} (h : ENV d S s) : S.i 44 = s.i 11 ∧ 0 ≤ (s.i 11).toInt ∧ (s.i 11).toInt ≤ 900 := by
  obtain ⟨h1, -⟩ := h
  have b5 := h1.2.2.2.2.1
  have b3 := h1.2.2.1.2.1
  have lc := h1.2.2.2.2.2.2.1.2.1
  have lc1 := h1.2.2.2.2.2.2.1.1
  have k11 := h1.2.2.2.1.1
  have k12 := h1.2.2.2.1.2.1
  rw [k11, k12] at lc
  exact ⟨k11, by omega, by omega⟩
theorem ENV.p20 {d : Int32} {S : CS} {s : RS} (h : ENV d S s) : 0 ≤ (s.i 20).toInt ∧ 0 ≤ phI s ∧ (s.i 20).toInt + phI s ≤ 2703 := by
  have a := h.2.2.2.2.2.2.1
  have b := h.2.2.2.2.2.2.2.1
  have c := h.2.2.2.2.2.2.2.2.1
  have e := h.p44
  refine ⟨a, b, ?_⟩
  unfold phI
  omega
/-- one token on: nothing is laid -/
theorem adv_cd {N : Nat} (hN : 1000 ≤ N) {d : Int32} {S : CS} {s : RS} {R : Unit × CS} {u : RS} (h : ENV d S s) (hz : ¬ S.i 43 = 0) (e : f_X9_advance N S = some R) (g : f_X12_next N s = some u) : CD1 (-1) (-1) S R.2 ∧ (∀ a b : Int, CT7 a b S R.2) ∧ (∀ c : Int, CD2 c s u) ∧ R.2.i 20 = S.i 20 ∧ R.2.i 21 = S.i 21 ∧ u.i 20 = s.i 20 ∧ (S.i 44).toInt + 1 ≤ (R.2.i 44).toInt := by
  obtain ⟨v, -, kp, -, q11, q20, -, -, -, -⟩ := h.adv hN hz e g
  have ke := ke_X9_advance N S R e
  have qe' := kre_f_X12_next N s u g
  obtain ⟨-, -, -, -, -, -, -, -, -, -, -, -, -, i50, -, -, -, -, -, -, a48, a49, -, -, -, -, -, i21, -⟩ := pj_eq kp
  have e1 := h.p44.1
  have e2 := v.p44.1
  have l : (S.i 44).toInt + 1 ≤ (R.2.i 44).toInt := by rw [e1, e2]; exact q11
  exact ⟨CD1.pe (b := 1) ke i21 i50 a48 a49 l, fun a b => CT7.eq (pe_eq ke).2.2.2.1, fun c => CD2.qe qe', (pe_eq ke).1, i21, q20, l⟩
