/-! both readers: sums and products, whole -/
theorem sx_sum {N : Nat} (hN : 1000 ≤ N) {K K2 : Int32} {ops : Int32 → Prop} {opr : Int32 → Prop} {E : CS → Option (Unit × CS)} {L : Nat → CS → Int32 → Option (Unit × CS)} (hE : SXR N K2 E) (hFE : ∀ S R, E S = some R → ¬ S.i 32 = 0 → ¬ R.2.i 32 = 0) (hL : LPA N ops E L) (h0 : ¬ ops 0) (hop : ∀ (S : CS) (s : RS), TKR S s → (ops (S.i 43) ↔ opr (s.i 10)))
    (hK : ∀ (n : Nat) (s U : RS) (t : Nat), f_X12_parse_10 N n s = some U → tpI s = t → s.i 15 = 0 → s.a 64 t = K → ∃ (m : Nat) (V : RS), ((opr (s.i 10) ∧ f_X12_sums N s (s.i 63) K2 1 = some V) ∨ (¬ opr (s.i 10) ∧ f_X12_sums N s (s.i 63) K2 0 = some V)) ∧ f_X12_parse_10 N m V = some U) : SXR N K (fun S => (E S).bind fun p => L N p.2 0) := by
  intro d S s U n t R hv ht hk hs h3 e g
  obtain ⟨p, e1, e2⟩ := hf_bind e
  have h15 := hv.1.2.1
  have en := tp_nat ht
  obtain ⟨m, V, hV, g2⟩ := hK n s U t g ht h15 hk
  have un : ∀ y : Int32, f_X12_sums N s (s.i 63) K2 y = some V → V = TH s t 1 K2 ∧ t + 1 < 1000 := fun y hy => by
    unfold f_X12_sums at hy
    obtain ⟨-, hy⟩ := hf_ite hy
    rw [en, if_pos hs, ob_id] at hy
    exact r_then ht hy
  have hV' : V = TH s t 1 K2 ∧ t + 1 < 1000 := by
    rcases hV with ⟨-, b⟩ | ⟨-, b⟩
    · exact un 1 b
    · exact un 0 b
  obtain ⟨hV', t9⟩ := hV'
  rw [hV'] at g2
  have r0 := hv.2.2.2.2.2.2.2.1
  rcases hE d S (TH s t 1 K2) U m (t + 1) p hv.th (TH.tp ht (by omega)) TH.fk TH.fs (show 3 ≤ phI s from h3) e1 g2 with ⟨x1, x2⟩ | ⟨m2, u, g3, xo, xc⟩
  · exact Or.inl ⟨hL.2.2 N p.2 0 R e2 x1, x2⟩
  · obtain ⟨o1, o2, o3, o4, o5, o6, o7, o8, o9⟩ := xo
    have u64 : u.a 64 t = K := by
      rw [(o3 t (by omega)).1, TH.fk0 (Nat.le_refl t)]
      exact hk
    have u65 : u.a 65 t = 1 := by
      rw [(o3 t (by omega)).2.1]
      exact TH.st
    have tu : tpI u = t := by
      rw [o2]
      omega
    have o6' : (s.i 11).toInt + 1 ≤ (u.i 11).toInt := o6
    have o7' : phI s + 1 ≤ phI u := o7
    have o8' : (s.i 17).toInt + 1 ≤ (u.i 17).toInt := o8
    have o9' : u.i 19 = s.i 19 := o9
    have u0 : 0 ≤ (u.i 11).toInt := by
      have lc := hv.1.2.2.2.2.2.2.1.2.1
      have k11 := hv.1.2.2.2.1.1
      rw [k11] at lc
      omega
    rcases sx_loop hN hE hFE hL h0 hop hK N m2 t d 0 p.2 u U R (phI s + 1) o1 tu u64 (Or.inl u65) (fun _ => o7') (fun z => by rw [u65] at z; exact absurd z (by decide)) (by omega) (by decide) (by rw [z_t0]; exact u0) e2 g3 with z | ⟨m3, u3, y1, y2, y3, y4, y5, y6, y7, y8, y9, y10, y11⟩
    · exact Or.inl z
    · refine Or.inr ⟨m3, u3, y1, ⟨y2, y3, (TH.frb.tr (o3.mo (by omega))).tr y4, (TH.tbk.tr o4).tr y5, o5.tr y6, by omega, y8, by omega, y10.trans o9'⟩, fun cr => ?_⟩
      obtain ⟨b1, b2, b3, b4⟩ := xc cr
      have crp : CRB p.2 := cr.of b1 (by omega) (by omega)
      obtain ⟨d1, d2, d3, d4, -⟩ := y11 crp
      have d4' := d4 u65
      have su : CD2 (s.i 20).toInt s u := (CD2.qe rfl).tr b3
      have kT : TBK s u := TH.tbk.tr o4
      have l20 := b1.1.1
      have l20' := d1.1.1
      have pS : ((pcC S : Nat) : Int) = (S.i 20).toInt := Int.toNat_of_nonneg cr.1.1
      have pp : ((pcC p.2 : Nat) : Int) = (p.2.i 20).toInt := Int.toNat_of_nonneg crp.1.1
      have pR : ((pcC R.2 : Nat) : Int) = (R.2.i 20).toInt := Int.toNat_of_nonneg (by have := crp.1.1; omega)
      refine ⟨(b1.tr d1).wk (by omega) (by omega), b2.tr (d2.wk (Int.le_refl _) b1.2.2.1), su.tr (d3.wk su.1.1), ?_⟩
      obtain ⟨Ψ1, sat1, b4⟩ := b4
      obtain ⟨Ψ2, sat2, d4'⟩ := d4'
      refine ⟨_, (sat1.wd (MNO.of (CD1.rf S) (CD2.qe rfl : CD2 0 s (TH s t 1 K2))) (MNO.of (CD1.rf p.2) (CD2.rf 0 u))).an sat2 (MNO.of b1 su) (MNO.of d1 d3), ?_⟩
      intro FC SF nm X c h w W g0 ps fc fr ng hc hh ty hW hg z
      have z1 := d4' FC SF nm X c h w W 0 ps.2 (fc.sub b1 (CD1.rf R.2) (CT7.rf _ _ R.2)) (fr.sub su (CD2.rf 0 u3) (fun _ _ _ => ⟨rfl, rfl, rfl⟩)) (ng.mv hv.2.1.1 b1 su kT.1.1.2.2.2.1 (fun j hj => (kT.1.2.1 j hj).2.1) (by rw [o9']; exact Int.le_refl _)) hc (by omega) ty hW rfl z
      have z2 := b4 FC SF nm X c h (w + (pcC R.2 - pcC p.2)) W g0 ps.1 (fc.sub (CD1.rf S) d1 (d2.wk cr.2.1 (Int.le_refl _))) (fr.sub (CD2.qe rfl : CD2 0 s (TH s t 1 K2)) d3 (d3.c3 (Int.le_refl _))) (ng.mv hv.2.1.1 (CD1.rf S) (CD2.qe rfl : CD2 0 s (TH s t 1 K2)) rfl (fun _ _ => rfl) (Int.le_refl _)) hc hh ty (by omega) True.intro z1
      rw [show w + (pcC R.2 - pcC S) = w + (pcC R.2 - pcC p.2) + (pcC p.2 - pcC S) by omega]
      exact z2
theorem lpa_prod {N : Nat} {E1 : CS → Option (Unit × CS)} {E2 : CS → Option (Int32 × CS)} (hm1 : ∀ σ, Kf (CS.i σ 32) (E1 σ)) (hm2 : ∀ σ, Kf (CS.i σ 32) (E2 σ)) : LPA N (fun c => c = 42 ∨ c = 47 ∨ c = 37) E1 (f_X1_product_6 N E1 E2) := by
  refine ⟨fun _ _ => rfl, fun n S x R e => ?_, fun n S x R e h => by rw [kF_X1_product_6 N E1 E2 hm1 hm2 n S x R e h]; exact h⟩
  have e' : b_X1_product_6 N E1 E2 (f_X1_product_6 N E1 E2 n) S x = some R := e
  unfold b_X1_product_6 at e'
  by_cases c9 : (900 : Int32) ≤ x
  · rw [if_pos c9] at e'
    cases e'
    exact Or.inl ⟨Or.inl c9, rfl⟩
  · rw [if_neg c9] at e'
    by_cases c42 : S.i 43 = 42
    · rw [e_fnd1 c42, ob_some, if_neg n10, e_fnd1 c42, ob_some, if_neg n10] at e'
      obtain ⟨p, e1, e'⟩ := hf_bind e'
      obtain ⟨q, e2, e'⟩ := hf_bind e'
      obtain ⟨w, e3, e'⟩ := hf_bind e'
      exact Or.inr ⟨c9, Or.inl c42, _, p, q, w, e1, e2, e3, e', Or.inl ⟨c42, rfl⟩⟩
    · rw [e_fnd0 c42, ob_some, if_pos rfl] at e'
      by_cases c47 : S.i 43 = 47
      · rw [e_fnd1 c47, ob_some, if_neg n10, e_fnd0 c42, ob_some, if_pos rfl, e_fnd1 c47, ob_some, if_neg n10] at e'
        obtain ⟨p, e1, e'⟩ := hf_bind e'
        obtain ⟨q, e2, e'⟩ := hf_bind e'
        obtain ⟨w, e3, e'⟩ := hf_bind e'
        exact Or.inr ⟨c9, Or.inr (Or.inl c47), _, p, q, w, e1, e2, e3, e', Or.inr (Or.inl ⟨c47, rfl⟩)⟩
      · rw [e_fnd0 c47, ob_some, if_pos rfl] at e'
        by_cases c37 : S.i 43 = 37
        · rw [e_fnd1 c37, ob_some, if_neg n10, e_fnd0 c42, ob_some, if_pos rfl, e_fnd0 c47, ob_some, if_pos rfl] at e'
          obtain ⟨p, e1, e'⟩ := hf_bind e'
          obtain ⟨q, e2, e'⟩ := hf_bind e'
          obtain ⟨w, e3, e'⟩ := hf_bind e'
          exact Or.inr ⟨c9, Or.inr (Or.inr c37), _, p, q, w, e1, e2, e3, e', Or.inr (Or.inr (Or.inl ⟨c37, rfl⟩))⟩
        · rw [e_fnd0 c37, ob_some, if_pos rfl] at e'
          cases e'
          exact Or.inl ⟨Or.inr (fun z => z.elim c42 (fun z => z.elim c47 c37)), rfl⟩
theorem lpa_expr {N : Nat} {E1 : CS → Option (Unit × CS)} {E2 : CS → Option (Int32 × CS)} (hm1 : ∀ σ, Kf (CS.i σ 32) (E1 σ)) (hm2 : ∀ σ, Kf (CS.i σ 32) (E2 σ)) : LPA N (fun c => c = 43 ∨ c = 45) (f_X1_product N E1 E2) (f_X1_expression_6 N E1 E2) := by
  refine ⟨fun _ _ => rfl, fun n S x R e => ?_, fun n S x R e h => by rw [kF_X1_expression_6 N E1 E2 hm1 hm2 n S x R e h]; exact h⟩
  have e' : b_X1_expression_6 N E1 E2 (f_X1_expression_6 N E1 E2 n) S x = some R := e
  unfold b_X1_expression_6 at e'
  by_cases c9 : (900 : Int32) ≤ x
  · rw [if_pos c9] at e'
    cases e'
    exact Or.inl ⟨Or.inl c9, rfl⟩
  · rw [if_neg c9] at e'
    by_cases c43 : S.i 43 = 43
    · rw [e_fnd1 c43, ob_some, if_neg n10, e_fnd1 c43, ob_some, if_neg n10] at e'
      obtain ⟨p, e1, e'⟩ := hf_bind e'
      obtain ⟨q, e2, e'⟩ := hf_bind e'
      obtain ⟨w, e3, e'⟩ := hf_bind e'
      exact Or.inr ⟨c9, Or.inl c43, _, p, q, w, e1, e2, e3, e', Or.inr (Or.inr (Or.inr (Or.inl ⟨c43, rfl⟩)))⟩
    · rw [e_fnd0 c43, ob_some, if_pos rfl] at e'
      by_cases c45 : S.i 43 = 45
      · rw [e_fnd1 c45, ob_some, if_neg n10, e_fnd0 c43, ob_some, if_pos rfl] at e'
        obtain ⟨p, e1, e'⟩ := hf_bind e'
        obtain ⟨q, e2, e'⟩ := hf_bind e'
        obtain ⟨w, e3, e'⟩ := hf_bind e'
        exact Or.inr ⟨c9, Or.inr c45, _, p, q, w, e1, e2, e3, e', Or.inr (Or.inr (Or.inr (Or.inr ⟨c45, rfl⟩)))⟩
      · rw [e_fnd0 c45, ob_some, if_pos rfl] at e'
        cases e'
        exact Or.inl ⟨Or.inr (fun z => z.elim c43 c45), rfl⟩
theorem sx_product {N : Nat} (hN : 1000 ≤ N) {E1 : CS → Option (Unit × CS)} {E2 : CS → Option (Int32 × CS)} (hm1 : ∀ σ, Kf (CS.i σ 32) (E1 σ)) (hm2 : ∀ σ, Kf (CS.i σ 32) (E2 σ)) (hE : SXR N 18 E1) : SXR N 17 (f_X1_product N E1 E2) := by
  refine sx_sum hN (opr := fun c => c = 42 ∨ c = 47 ∨ c = 37) hE (fun S R e h => by rw [hm1 S R e h]; exact h) (lpa_prod hm1 hm2) (by decide) (fun S s h => ?_) (fun n s U t g ht h15 hk => rl_17 g ht h15 hk)
  rw [h.is (c := 42) (d := 42) (Or.inl ⟨by decide, by decide⟩) (by decide), h.is (c := 47) (d := 47) (Or.inl ⟨by decide, by decide⟩) (by decide), h.is (c := 37) (d := 37) (Or.inl ⟨by decide, by decide⟩) (by decide)]
theorem sx_expression {N : Nat} (hN : 1000 ≤ N) {E1 : CS → Option (Unit × CS)} {E2 : CS → Option (Int32 × CS)} (hm1 : ∀ σ, Kf (CS.i σ 32) (E1 σ)) (hm2 : ∀ σ, Kf (CS.i σ 32) (E2 σ)) (hE : SXR N 18 E1) : SXR N 16 (f_X1_expression N E1 E2) := by
  refine sx_sum hN (opr := fun c => c = 43 ∨ c = 45) (sx_product hN hm1 hm2 hE) (fun S R e h => by rw [kF_X1_product N E1 E2 hm1 hm2 S R e h]; exact h) (lpa_expr hm1 hm2) (by decide) (fun S s h => ?_) (fun n s U t g ht h15 hk => rl_16 g ht h15 hk)
  rw [h.is (c := 43) (d := 43) (Or.inl ⟨by decide, by decide⟩) (by decide), h.is (c := 45) (d := 45) (Or.inl ⟨by decide, by decide⟩) (by decide)]
