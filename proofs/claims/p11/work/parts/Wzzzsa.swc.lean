/-! both readers: what a switch lays at its end -/
theorem SWG.lo {β : Int} {G : GHT} {S R : CS} {s : RS} {r : RVW} (h : SWG β G S s r) (hl : ∀ M : List Nat, chn s (s.a 22 (r.2.1 66).toNatClampNeg) M → (r.1 13).toInt + (nd (s.a 28) M : Int) ≤ (R.i 22).toInt) (a19 : R.a 19 = S.a 19) : SWG β G R s r := by
  obtain ⟨L, h1, ⟨h2, h3, h4, h6⟩, h5⟩ := h
  refine ⟨L, h1, ⟨h2, hl L h1, h4, h6⟩, fun j hj => ?_⟩
  rw [a19]
  exact h5 j hj
section
variable {A : JBA} {U : RS} {B : CS} {b : RS} {V0 : List RVW} {s0 : RS} {W : List RVW} {K : JKT} {a e : Int} {S : CS} {s : RS}
/-- the numbers of a switch, as they are laid -/
def ADK (S : CS) (f : Int32) (n : Nat) (x2 : Int32) (SF : CS) (p : Nat) : Prop := (∀ i : Nat, i < n → (SF.a 15 (p + 2 * i) = 0 ∧ SF.a 16 (p + 2 * i) = S.a 18 (f.toInt + i).toNat) ∧ SF.a 15 (p + 2 * i + 1) = 34 ∧ SF.a 16 (p + 2 * i + 1) = S.a 19 (f.toInt + i).toNat) ∧ SF.a 15 (p + 2 * n) = 6 ∧ SF.a 15 (p + 2 * n + 1) = 30 ∧ SF.a 16 (p + 2 * n + 1) = x2
/-- a switch's numbers are laid -/
theorem JRG.adc {N m n : Nat} {f x2 : Int32} {R : Unit × CS} (h : JRG A U B b V0 s0 W K a e S s) (e1 : f_X0_addCases_2 N m S f x2 f = some R) (h44 : (S.i 44).toInt ≤ 900) (h22 : 0 ≤ f.toInt ∧ f.toInt ≤ (S.i 22).toInt ∧ (S.i 22).toInt ≤ 320) (hn : (n : Int) = (S.i 22).toInt - f.toInt) (ha : a + 2 * (n : Int) + 2 ≤ 200) (hB : (B.i 22).toInt ≤ f.toInt) (hV : ∀ r ∈ V0, r.v = 218 → ∀ M : List Nat, chn s (s.a 22 (r.2.1 66).toNatClampNeg) M → (r.1 13).toInt + (nd (s.a 28) M : Int) ≤ f.toInt) : JRG A U B b V0 s0 W (fun FC SF nm X ω j Z => (ADK S f n x2 SF (pcC S) ∧ pcC S + 2 * n + 2 ≤ 1200 ∧ pcC R.2 = pcC S + 2 * n + 2) ∧ K FC SF nm X ω j Z) (a + (2 * (n : Int) + 2)) e R.2 s := by
  intro crB
  obtain ⟨b1, ⟨b2, n8⟩, b3, b4, Ψ, G, col, YJ, sax, ⟨pin, pin0⟩, tgi, jsi, main⟩ := h crB
  obtain ⟨⟨r1, r1'⟩, r2, r3, r4, r5⟩ := crB.rms b1
  obtain ⟨d1, d2, d3, d4, di, da, d22⟩ := adc_cd m S f R e1 h22.1 h22.2.1 h22.2.2 r1 (by omega)
  have en : ((S.i 22).toInt - f.toInt).toNat = n := by omega
  rw [en] at d1 d3 d4
  have i21 : R.2.i 21 = S.i 21 := di 21 (by decide) (by decide)
  have i23 : R.2.i 23 = S.i 23 := di 23 (by decide) (by decide)
  have i44 : R.2.i 44 = S.i 44 := di 44 (by decide) (by decide)
  have i38 : R.2.i 38 = S.i 38 := di 38 (by decide) (by decide)
  have a17 : R.2.a 17 = S.a 17 := da 17 (by decide) (by decide)
  have a19 : R.2.a 19 = S.a 19 := da 19 (by decide) (by decide)
  have kd : ∀ {x y : Int}, KD1 x y B S → KD1 (x + (2 * (n : Int) + 2)) y B R.2 := fun {x y} k => by
    obtain ⟨⟨k1, k2, k3⟩, k4, k5, ⟨k6, k7⟩, k8, k9⟩ := k
    refine ⟨⟨by omega, by rw [i44]; omega, by rw [i21, i44]; exact k3⟩, fun j hj => ?_, by rw [i21]; exact k5, ⟨by rw [i23]; exact k6, by rw [i23, i44]; exact k7⟩, by rw [d22]; exact hB, fun j hj => by rw [a19]; exact k9 j hj⟩
    rw [(d2 j (by omega)).1, (d2 j (by omega)).2]
    exact k4 j hj
  have l20 : (S.i 20).toInt ≤ (R.2.i 20).toInt := by omega
  refine ⟨kd b1, ⟨b2.tr (CT7.eq a17), n8.nk (NK.eq (da 48 (by decide) (by decide)) (da 49 (by decide) (by decide)) rfl rfl)⟩, b3, b4, Ψ, G, col, YJ, ?_, ⟨pin, pin0⟩, ?_, ⟨jsi.1, (kd jsi.2.1).wk (by omega) (Int.le_refl _), jsi.2.2.1.mv crB.1.1.2.1 (by rw [i21]; exact Int.le_refl _) l20 (CT7.eq a17) (fun r hr _ _ => hr), fun r hr => ?_, jsi.2.2.2.2⟩, ?_⟩
  · unfold SAX GHM at sax ⊢
    rw [i23]
    exact sax
  · unfold TGI at tgi ⊢
    rw [i21, a17]
    exact tgi
  · have z := jsi.2.2.2.1 r hr
    exact ⟨fun w => (z.1 w).lo (fun M hM => by rw [d22]; exact hV r hr w M hM) a19, z.2.1, fun w y hy => Int.le_trans (z.2.2.1 w y hy) l20, fun w => Int.le_trans (z.2.2.2.1 w) l20, z.2.2.2.2⟩
  intro FC SF nm X h0 ω c0 psi ng0 hc0 hh0 hω
  obtain ⟨⟨ng, hc, hh, wn⟩, mn⟩ := main FC SF nm X h0 ω c0 psi ng0 hc0 hh0 hω
  have pS : ((pcC S : Nat) : Int) = (S.i 20).toInt := Int.toNat_of_nonneg r1
  refine ⟨⟨⟨⟨fun k hk => by rw [da 48 (by decide) (by decide), da 49 (by decide) (by decide)]; exact ng.1.1 k hk, by rw [i38]; exact ng.1.2.1, ng.1.2.2.1, ng.1.2.2.2.mv (by rw [i23]; exact Int.le_refl _) (SLC.eq rfl (Int.le_refl _))⟩, ng.2⟩, hc, hh, wn.mv (by rw [i23]; exact Int.le_refl _) (fun _ hr _ => hr)⟩, fun fc fg hA tyc jr => ⟨⟨⟨fun i hi => ?_, ?_⟩, ?_, ?_⟩, mn ⟨⟨fc.1.1, by have := fc.1.2; omega⟩, fun j j1 j2 => ?_, fun k k1 k2 k3 => ?_⟩ fg hA tyc jr⟩⟩
  · have y := d3 i hi (pcC S + 2 * i) (by omega)
    have f1 := fc.2.1 (pcC S + 2 * i) (by have := b1.1.1; omega) (by omega)
    have f2 := fc.2.1 (pcC S + 2 * i + 1) (by have := b1.1.1; omega) (by omega)
    rw [f1.1, f1.2, f2.1, f2.2]
    exact ⟨⟨y.1, y.2.1⟩, y.2.2⟩
  · have y := d4 (pcC S + 2 * n) (by omega)
    have f1 := fc.2.1 (pcC S + 2 * n) (by have := b1.1.1; omega) (by omega)
    have f2 := fc.2.1 (pcC S + 2 * n + 1) (by have := b1.1.1; omega) (by omega)
    rw [f1.1, f2.1, f2.2]
    exact y
  · have := fc.1.2
    omega
  · unfold pcC
    unfold pcC at pS
    omega
  · have f1 := fc.2.1 j j1 (by omega)
    rw [(d2 j j2).1, (d2 j j2).2] at f1
    exact f1
  · have z := fc.2.2 k k1 (by rw [i21]; exact k2) (by rw [i21, a17]; exact k3)
    rw [a17] at z
    exact z
end
theorem adc_44 {N : Nat} {f x2 : Int32} : ∀ (n : Nat) (S : CS) (x3 : Int32) (R : Unit × CS), f_X0_addCases_2 N n S f x2 x3 = some R → R.2.i 44 = S.i 44
  | 0, _, _, _, e => by cases e
  | n + 1, S, x3, R, e => by
    have e' : b_X0_addCases_2 N (f_X0_addCases_2 N n) S f x2 x3 = some R := e
    unfold b_X0_addCases_2 at e'
    by_cases c : S.i 22 ≤ x3
    · rw [if_pos c] at e'
      obtain ⟨p, ep, e'⟩ := hf_bind e'
      obtain ⟨q, eq, e'⟩ := hf_bind e'
      cases e'
      show q.2.i 44 = S.i 44
      rw [(add_eq eq).1 44 (by decide), (add_eq ep).1 44 (by decide)]
      rfl
    · rw [if_neg c] at e'
      obtain ⟨p, ep, e'⟩ := hf_bind e'
      obtain ⟨q, eq, e'⟩ := hf_bind e'
      rw [adc_44 n q.2 (x3 + 1) R e', (add_eq eq).1 44 (by decide), (add_eq ep).1 44 (by decide)]
/-- a switch's head: where its numbers lead -/
theorem gs_swi {FC : Nat → Prop} {s0 : CS} {r0 : RS} {nm : Nat → Nat → Prop} {X : Als} {p q h w g d n : Nat} {L : List Nat} {c : List Ent} (pq : HC1 nm p q (h + 1) c) (hq : (q : Int) < (r0.i 20).toInt) (e1 : s0.a 15 p = 30) (hd : (cTg s0 (s0.a 16 p)).toInt = (d : Int)) (dsp : DSP s0 d n) (hh : h + 2 ≤ 600) (ch : CHL r0 L (r0.a 22 q)) (hw : 2 * n + 3 ≤ w) (e2 : r0.a 21 q = 28) (cho : CHO s0 r0 (GU FC s0 r0 nm X) q h w d n L c) (dft : (∀ k ∈ L, r0.a 28 k = 0) → JX s0 (GU FC s0 r0 nm X) (s0.a 16 (d + 2 * n + 1)) (r0.a 23 q) h w (2 * n + 3) 0 c) : GU FC s0 r0 nm X p q (h + 1) w g c := gi_UCho pq hq ⟨e1, d, n, h, L, hd, dsp, ⟨rfl, hh⟩, ch, hw, Or.inl ⟨e2, cho, dft⟩⟩
theorem lst_nd {α : Type} : ∀ L : List α, L = [] ∨ ∃ (L0 : List α) (l : α), L = L0 ++ [l]
  | [] => Or.inl rfl
  | a :: L => by
    rcases lst_nd L with h | ⟨L0, l, h⟩
    · exact Or.inr ⟨[], a, by rw [h]; rfl⟩
    · exact Or.inr ⟨a :: L0, l, by rw [h]; rfl⟩
/-- the numbers of the switches below -/
theorem STK.nd8 {S : CS} {s : RS} : ∀ (L : List CEL) (m e k : Int), STK S s L m e k → ∀ y ∈ L, S.o y.2.1 0 = 218 → ∀ M : List Nat, chn s (s.a 22 (s.a 66 (ceT y)).toNatClampNeg) M → (S.o y.2.1 13).toInt + (nd (s.a 28) M : Int) ≤ m ∧ (∀ j ∈ M, (j : Int) < e) ∧ ((s.a 67 (ceT y)).toInt < e ∨ (s.a 67 (ceT y)).toInt < 0)
  | [], _, _, _, _, y, hy, _, _, _ => absurd hy List.not_mem_nil
  | c :: L, m, e, k, h, y, hy, h8, M, hM => by
    obtain ⟨m', e', k', h1, h2, h3⟩ := h
    rcases List.mem_cons.mp hy with z | z
    · rw [z] at h8 hM ⊢
      obtain ⟨q1, q2, q3, M0, l1, l2, l3, l4⟩ := h1.2.2.2.2.1 h8
      rw [chn.uq _ _ _ hM l2]
      have l5 := l1.2.1.2.1
      refine ⟨by omega, fun j hj => (l4 j hj).2, ?_⟩
      rcases lst_nd M0 with w | ⟨L0, l, w⟩
      · exact Or.inr (l3.1 w)
      · have z1 := l3.2 L0 l w
        have z2 := (l4 l (by rw [w]; exact List.mem_append_right _ List.mem_cons_self)).2
        exact Or.inl (by omega)
    · have ih := STK.nd8 L m' e' k' h3 y z h8 M hM
      have lm : m' ≤ m ∧ e' ≤ e := by
        by_cases c8 : S.o c.2.1 0 = 218
        · obtain ⟨q1, q2, q3, M0, l1, -⟩ := h1.2.2.2.2.1 c8
          have := l1.2.1.1
          exact ⟨by omega, q2⟩
        · obtain ⟨q1, q2⟩ := h1.2.2.2.1 c8
          omega
      exact ⟨by omega, fun j hj => by have := ih.2.1 j hj; omega, ih.2.2.elim (fun w => Or.inl (by omega)) Or.inr⟩
