/-! both readers: && and || -/
/-- a condition: also whether it is just true -/
def SXN (N : Nat) (K : Int32) (E : CS → Option (Int32 × CS)) : Prop := ∀ (d : Int32) (S : CS) (s U : RS) (n t : Nat) (R : Int32 × CS), ENV d S s → tpI s = t → s.a 64 t = K → s.a 65 t = 0 → 3 ≤ phI s → E S = some R → f_X12_parse_10 N n s = some U → (¬ R.2.i 32 = 0 ∧ ¬ U.i 15 = 0) ∨ ∃ (m : Nat) (u : RS), f_X12_parse_10 N m u = some U ∧ XO d t S s R.2 u ∧ (R.1 = 0 ∨ R.1 = 1) ∧ (R.1 = 1 ↔ (s.i 10 = 432 ∧ (u.i 17).toInt = (s.i 17).toInt + 1)) ∧ (CDE 2 U S s R.2 u ∧ (R.1 = 1 → CDE 4 U S s R.2 u))
def LPB (N : Nat) (c o : Int32) (E : CS → Option (Int32 × CS)) (L : Nat → CS → Int32 → Int32 → Option (Int32 × CS)) : Prop := (∀ S y x, L 0 S y x = none) ∧ (∀ n S y x R, L (n + 1) S y x = some R → (((900 : Int32) ≤ x ∨ ¬ S.i 43 = c) ∧ ∃ w : Unit × CS, f_X0_aim N S y = some w ∧ R = (0, w.2)) ∨ (¬ (900 : Int32) ≤ x ∧ S.i 43 = c ∧ ∃ (p w : Unit × CS) (q : Int32 × CS), f_X9_advance N S = some p ∧ f_X0_add N p.2 o y = some w ∧ E w.2 = some q ∧ L n q.2 y (x + 1) = some R)) ∧ (∀ n S y x R, L n S y x = some R → ¬ S.i 32 = 0 → ¬ R.2.i 32 = 0)
theorem t17_up {N : Nat} {d : Int32} {S : CS} {s : RS} (hv : ENV d S s) : (s.i 17 + 1).toInt = (s.i 17).toInt + 1 := by
  obtain ⟨h1, -, -, -, -, -, ⟨r1, r2, r3, r4, r5, -⟩⟩ := hv
  have b5 := h1.2.2.2.2.1
  have b3 := h1.2.2.1.2.1
  have e1' : (1 : Int32).toInt = 1 := by decide
  have lc := h1.2.2.2.2.2.2.1.2.1
  have k11 := h1.2.2.2.1.1
  have k12 := h1.2.2.2.1.2.1
  rw [k11, k12] at lc
  unfold phI at r2
  rw [toInt_add] <;> rw [e1'] <;> omega
theorem i11_hi {d : Int32} {S : CS} {s : RS} (hv : ENV d S s) : 0 ≤ (s.i 11).toInt ∧ (s.i 11).toInt ≤ 900 := by
  obtain ⟨h1, -⟩ := hv
  have b5 := h1.2.2.2.2.1
  have b3 := h1.2.2.1.2.1
  have lc := h1.2.2.2.2.2.2.1.2.1
  have k11 := h1.2.2.2.1.1
  have k12 := h1.2.2.2.1.2.1
  rw [k11, k12] at lc
  omega
theorem ENV.nt {N : Nat} {d : Int32} {S : CS} {s : RS} {w : Int32 × CS} (h : ENV d S s) (h21 : (S.i 21).toInt + 1 ≤ 3 * (s.i 11).toInt + 8) (e : f_X0_newTarget N S = some w) : ENV d w.2 s ∧ w.1.toInt = (S.i 21).toInt ∧ (w.2.i 21).toInt = (S.i 21).toInt + 1 := by
  have hi := i11_hi h
  unfold f_X0_newTarget at e
  cases e
  obtain ⟨⟨h1, h2, h3, h4, h5, h6, h7, h8⟩, n, o, c, l, k, ⟨r1, r2, r3, r4, r5, r6, r7, r8, r9, r10, r11⟩⟩ := h
  have a : (S.i 21 + 1).toInt = (S.i 21).toInt + 1 := ad1 r6 (by omega)
  have e1 : (1 : Int32).toInt = 1 := by decide
  have b : (S.i 21 + 1 - 1).toInt = (S.i 21).toInt := by
    rw [toInt_sub] <;> rw [a, e1] <;> omega
  refine ⟨⟨⟨h1, h2, h3, h4, h5, h6, h7, h8⟩, n, o, c, l, k, ⟨r1, r2, r3, r4, r5, ?_, ?_, r8.mv rfl rfl rfl rfl ⟨rfl, rfl, rfl⟩ r8.2.2.2.2.2.2 (Int.le_refl _), r9, r10, r11⟩⟩, b, a⟩
  · show 0 ≤ (S.i 21 + 1).toInt
    omega
  · show (S.i 21 + 1).toInt ≤ 3 * (s.i 11).toInt + 8
    omega
theorem setA_tb0 {s : RS} {k j : Nat} {v : Int32} (hk : k = 22 ∨ (64 ≤ k ∧ k ≤ 73)) : TBZ s (RS.setA s k j v) := by
  have e : ∀ m : Nat, m ≠ k → (RS.setA s k j v).a m = s.a m := fun m hm => if_neg hm
  exact ⟨⟨rfl, rfl, rfl, rfl, rfl, rfl, rfl, e 1 (by omega), e 4 (by omega), rfl⟩, fun n _ => ⟨rfl, by rw [e 40 (by omega)], by rw [e 41 (by omega)]⟩, fun n _ => ⟨by rw [e 44 (by omega)], rfl, by rw [e 46 (by omega)], by rw [e 47 (by omega)], by rw [e 50 (by omega)], by rw [e 51 (by omega)], by rw [e 48 (by omega)], by rw [e 49 (by omega)]⟩, fun n _ => ⟨by rw [e 57 (by omega)], by rw [e 58 (by omega)]⟩, ⟨Int.le_refl _, fun n h1 h2 => absurd (show (n : Int) < (s.i 59).toInt from h2) (by omega)⟩, fun n _ => ⟨by rw [e 60 (by omega)], by rw [e 61 (by omega)], by rw [e 62 (by omega)]⟩, Int.le_refl _, fun n _ => by rw [e 30 (by omega)], Int.le_refl _, fun n _ => ⟨by rw [e 34 (by omega)], by rw [e 37 (by omega)]⟩, Int.le_refl _, fun n _ => ⟨by rw [e 25 (by omega)], by rw [e 27 (by omega)], by rw [e 28 (by omega)]⟩⟩
theorem setA_env {d : Int32} {S : CS} {s : RS} {k j : Nat} {v : Int32} (hk : k = 22 ∨ (64 ≤ k ∧ k ≤ 73)) (h : ENV d S s) : ENV d S (RS.setA s k j v) := by
  have e : ∀ m : Nat, m ≠ k → (RS.setA s k j v).a m = s.a m := fun m hm => if_neg hm
  exact h.kq rfl rfl rfl rfl rfl rfl rfl (e 1 (by omega)) (e 4 (by omega)) (e 41 (by omega)) rfl rfl rfl rfl rfl rfl rfl rfl rfl rfl ⟨h.2.2.2.2.2.2.1, h.2.2.2.2.2.2.2.1⟩ (h.wp.of (Int.le_refl _) rfl rfl rfl (e 58 (by omega)) (e 62 (by omega)))
theorem setA_frb {s : RS} {t k j : Nat} {v : Int32} (hk : k = 22 ∨ (64 ≤ k ∧ k ≤ 73 ∧ t ≤ j)) : FRB t s (RS.setA s k j v) := by
  intro i hi
  have e : ∀ m : Nat, 64 ≤ m → m ≤ 73 → (RS.setA s k j v).a m i = s.a m i := fun m h1 h2 => by
    by_cases c : m = k
    · rw [c]
      show (if k = k then upd (s.a k) j v else s.a k) i = s.a k i
      rw [if_pos rfl]
      exact if_neg (by omega)
    · show (if m = k then upd (s.a k) j v else s.a m) i = s.a m i
      rw [if_neg c]
  exact ⟨e 64 (by omega) (by omega), e 65 (by omega) (by omega), e 66 (by omega) (by omega), e 67 (by omega) (by omega), e 68 (by omega) (by omega), e 69 (by omega) (by omega), e 70 (by omega) (by omega), e 71 (by omega) (by omega), e 72 (by omega) (by omega), e 73 (by omega) (by omega), rfl⟩
/-- KEEP in both -/
def KOP (o op : Int32) (F : Nat) : Prop := (o = 32 ∧ op = 12 ∧ F = 3) ∨ (o = 33 ∧ op = 11 ∧ F = 4)
theorem gs_kepf {FC : Nat → Prop} {s0 : CS} {r0 : RS} {nm : Nat → Nat → Prop} {X : Als} {p q h w p' q' f F w' : Nat} {c : List Ent} (pq : PQX s0 r0 p q) (k : HC0 nm h c) (e1 : KOP (s0.a 15 p) (r0.a 21 q) F) (hf : f = 2 ∨ f = F) (ht : (cTg s0 (s0.a 16 p)).toInt = (p' : Int)) (hx : (r0.a 22 q).toInt = (q' : Int)) (l : w' ≤ w) (zj : GU FC s0 r0 nm X p' q' (h + 1) w' f c) (z : GU FC s0 r0 nm X (p + 1) (q + 1) h w 0 c) : GU FC s0 r0 nm X p q (h + 1) (w + 1) 2 c := by
  refine gi_UKep (pq.hc (k.up (Nat.le_succ _))) pq.2.1 ⟨?_, h, f, rfl, JX.of ht hx zj 1 (by omega), NXW.of z 1, ?_⟩
  · rcases e1 with ⟨a, b, -⟩ | ⟨a, b, -⟩
    · exact Or.inl ⟨a, b⟩
    · exact Or.inr ⟨a, b⟩
  · rcases hf with hf | hf
    · exact Or.inr (Or.inl ⟨hf, rfl⟩)
    · rcases e1 with ⟨a, -, b⟩ | ⟨a, -, b⟩
      · exact Or.inr (Or.inr (Or.inl ⟨hf.trans b, a, rfl⟩))
      · exact Or.inr (Or.inr (Or.inr ⟨hf.trans b, a, rfl⟩))
theorem gs_rkp {FC : Nat → Prop} {s0 : CS} {r0 : RS} {nm : Nat → Nat → Prop} {X : Als} {p q h w q' f F : Nat} {o : Int32} {c : List Ent} (pq : PQX s0 r0 p q) (k : HC0 nm h c) (e1 : KOP o (r0.a 21 q) F) (hf : f = 2 ∨ f = F) (hx : (r0.a 22 q).toInt = (q' : Int)) (z : GU FC s0 r0 nm X p q' (h + 1) w f c) : GU FC s0 r0 nm X p q (h + 1) w F c := gi_URkp (pq.hc (k.up (Nat.le_succ _))) pq.2.1 ⟨by rcases e1 with ⟨-, a, b⟩ | ⟨-, a, b⟩; exact Or.inl ⟨a, b⟩; exact Or.inr ⟨a, b⟩, h, q', w, f, rfl, hx, z, Nat.le_refl _, hf⟩
/-- the loop's code -/
def LBD (t : Nat) (U : RS) (c9 y : Int32) (F : Nat) (S : CS) (s : RS) (R : CS) (u : RS) : Prop := CRB S → 0 ≤ y.toInt → y.toInt < (S.i 21).toInt → (s.a 65 t = 2 → 0 ≤ (s.a 66 t).toInt ∧ (s.a 66 t).toInt < (s.i 20).toInt) → (CD1 0 0 S R ∧ (S.i 43 = c9 → CD1 0 (-2) S R)) ∧ (∀ k : Nat, (k : Int) < (S.i 21).toInt → ¬ (k : Int) = y.toInt → R.a 17 k = S.a 17 k) ∧ cTg R y = R.i 20 ∧ CD2 0 s u ∧ (∀ j : Nat, (j : Int) < (s.i 20).toInt → u.a 21 j = s.a 21 j ∧ u.a 23 j = s.a 23 j ∧ (¬ (s.a 65 t = 2 ∧ (j : Int) = (s.a 66 t).toInt) → u.a 22 j = s.a 22 j)) ∧ (s.a 65 t = 2 → u.a 22 (s.a 66 t).toNatClampNeg = s.i 20) ∧ ∃ Ψ : GPS, SAT Ψ S s R u ∧ ∀ (FC : Nat → Prop) (SF : CS) (nm : Nat → Nat → Prop) (X : Als) (c : List Ent) (h w W : Nat), Ψ FC nm → FGC S R SF → cTg SF y = cTg R y → FGR s u U → NMG nm c S s → HC0 nm h c → ((2 * h + 1 + msr c : Nat) : Int) ≤ (s.i 11).toInt → TYC SF U (GU FC SF U nm X) W c → W + 1 ≤ w → GU FC SF U nm X (pcC R) (pcR u) (h + 1) w 2 c → GU FC SF U nm X (pcC S) (pcR s) (h + 1) (w + (pcC R - pcC S)) 2 c ∧ ∃ f : Nat, (f = 2 ∨ f = F) ∧ GU FC SF U nm X (pcC R) (pcR s) (h + 1) w f c
theorem sx_bloop {N : Nat} (hN : 1000 ≤ N) {K K2 c sg op o : Int32} {F : Nat} {E : CS → Option (Int32 × CS)} {L : Nat → CS → Int32 → Int32 → Option (Int32 × CS)} (hE : SXN N K2 E) (ko : KOP o op F) (hL : LPB N c o E L) (h0 : ¬ c = 0) (hc : tyR c) (hsg : tm c = sg)
    (hK : ∀ (n : Nat) (s U : RS) (t : Nat), f_X12_parse_10 N n s = some U → tpI s = t → s.i 15 = 0 → s.a 64 t = K → ∃ (m : Nat) (V : RS), f_X12_both N s (s.i 63) K2 sg op = some V ∧ f_X12_parse_10 N m V = some U) :
    ∀ (n1 n t : Nat) (d y x : Int32) (S : CS) (s U : RS) (R : Int32 × CS) (φ c0 : Int), ENV d S s → tpI s = t → s.a 64 t = K → (s.a 65 t = 1 ∨ (s.a 65 t = 2 ∧ c0 ≤ (s.a 66 t).toInt)) → φ ≤ phI s → 1 ≤ φ → 0 ≤ c0 → c0 ≤ (s.i 20).toInt → 0 ≤ x.toInt → x.toInt ≤ (s.i 11).toInt → L n1 S y x = some R → f_X12_parse_10 N n s = some U → (¬ R.2.i 32 = 0 ∧ ¬ U.i 15 = 0) ∨ ∃ (m : Nat) (u : RS), f_X12_parse_10 N m u = some U ∧ ENV d R.2 u ∧ tpI u = (t : Int) - 1 ∧ FRB t s u ∧ TBZ s u ∧ CDK c0 s u ∧ CKX S R.2 ∧ (s.i 11).toInt ≤ (u.i 11).toInt ∧ φ ≤ phI u ∧ (s.i 17).toInt ≤ (u.i 17).toInt ∧ R.1 = 0 ∧ (S.i 43 = c → (s.i 17).toInt + 2 ≤ (u.i 17).toInt ∧ (R.2.i 21).toInt + 2 * (S.i 44).toInt + 1 ≤ (S.i 21).toInt + 2 * (R.2.i 44).toInt) ∧ u.i 19 = s.i 19 ∧ LBD t U c y F S s R.2 u := by
  intro n1
  induction n1 with
  | zero =>
    intro n t d y x S s U R φ c0 _ _ _ _ _ _ _ _ _ _ e
    rw [hL.1] at e
    cases e
  | succ n1 ih =>
    intro n t d y x S s U R φ c0 hv ht hk hs hp hφ hc0 hcd hx0 hx e g
    have h15 := hv.1.2.1
    obtain ⟨m, V, hV, g2⟩ := hK n s U t g ht h15 hk
    have en := tp_nat ht
    have t9 : t < 1000 := by
      have := (rl_0 g ht h15).2.1.2
      have h2 : (s.i 63).toInt = (t : Int) := ht
      omega
    have is := hv.1.2.2.2.1.is hc hsg
    -- behind what aims the instruction of the part before
    obtain ⟨s2, v2, k2, d2, f2, j2, z2, hV2⟩ : ∃ s2 : RS, ENV d S s2 ∧ TBZ s s2 ∧ CDK c0 s s2 ∧ FRB (t + 1) s s2 ∧ (s2.i 17 = s.i 17 ∧ s2.i 10 = s.i 10 ∧ s2.i 11 = s.i 11 ∧ s2.i 20 = s.i 20 ∧ s2.i 63 = s.i 63 ∧ s2.i 19 = s.i 19) ∧ (CD2 0 s s2 ∧ (∀ j : Nat, s2.a 21 j = s.a 21 j ∧ s2.a 23 j = s.a 23 j ∧ (¬ (s.a 65 t = 2 ∧ (j : Int) = (s.a 66 t).toInt) → s2.a 22 j = s.a 22 j)) ∧ (s.a 65 t = 2 → s2.a 22 (s.a 66 t).toNatClampNeg = s.i 20)) ∧ f_X12_both_41 N s2 (s.i 63) K2 sg op = some V := by
      unfold f_X12_both at hV
      obtain ⟨-, hV⟩ := hf_ite hV
      rw [en] at hV
      rcases hs with c1 | ⟨c2, c3⟩
      · rw [if_neg (by rw [c1]; decide), if_neg (by rw [c1]; decide)] at hV
        exact ⟨s, hv, TBZ.rf s, ⟨Int.le_refl _, fun _ _ => rfl⟩, FRB.rf _ s, ⟨rfl, rfl, rfl, rfl, rfl, rfl⟩, ⟨CD2.rf 0 s, fun _ => ⟨rfl, rfl, fun _ => rfl⟩, fun z => by rw [c1] at z; exact absurd z (by decide)⟩, hV⟩
      · rw [if_neg (by rw [c2]; decide), if_pos c2] at hV
        obtain ⟨ib9, hV⟩ := hf_ite hV
        have ck := clampI ib9.1
        refine ⟨_, setA_env (Or.inl rfl) hv, setA_tb0 (Or.inl rfl), ⟨Int.le_refl _, fun j hj => ?_⟩, setA_frb (Or.inl rfl), ⟨rfl, rfl, rfl, rfl, rfl, rfl⟩, ⟨⟨⟨Int.le_refl _, Int.le_refl _, Int.le_refl _, Int.le_refl _, SLC.eq rfl (Int.le_refl _), rfl⟩, fun j hj => by omega, fun _ _ => ⟨rfl, rfl, rfl, rfl⟩, fun _ _ => ⟨rfl, rfl, rfl⟩, fun _ _ => ⟨rfl, rfl, rfl, rfl⟩⟩, fun j => ⟨rfl, rfl, fun z => if_neg (fun y => z ⟨c2, by omega⟩)⟩, fun _ => if_pos rfl⟩, hV⟩
        show upd (s.a 22) _ _ j = s.a 22 j
        exact if_neg (by omega)
    have ht2 : tpI s2 = t := by
      show (s2.i 63).toInt = (t : Int)
      rw [j2.2.2.2.2.1]
      exact ht
    have p2 : phI s2 = phI s := by
      unfold phI
      rw [j2.1, j2.2.2.2.1]
    unfold f_X12_both_41 at hV2
    rcases hL.2.1 n1 S y x R e with ⟨hst, w, ew, hR⟩ | ⟨h900, hcc, p, w, q, e1, e2, e3, e4⟩
    · have no : ¬ S.i 43 = c := fun z => by
        rcases hst with q | q
        · rw [no_900 hv hx q] at z
          exact h0 z.symm
        · exact q z
      rw [if_neg (show ¬ s2.i 10 = sg from fun z => no (is.mpr (by rw [← j2.2.1]; exact z)))] at hV2
      cases hV2
      have kw := kd_X0_aim N S y w ew
      obtain ⟨kp7, -, -, -, e22, -, -, -, -, -, -, e18⟩ := pj2_eq kw
      rw [hR]
      refine Or.inr ⟨m, _, g2, pop_env (v2.kd kw), tp_sub ht2 t9, (f2.mo (by omega)).tr pop_frb, k2.tr pop_tbk.1, d2.tr ⟨Int.le_refl _, fun _ _ => rfl⟩, CKX.of kp7 e22 e18, ?_, ?_, ?_, rfl, fun z => absurd z no, j2.2.2.2.2.2, fun cr y0 y1 ys => ?_⟩
      · show (s.i 11).toInt ≤ (s2.i 11).toInt
        rw [j2.2.2.1]
        exact Int.le_refl _
      · show φ ≤ phI s2
        rw [p2]
        exact hp
      · show (s.i 17).toInt ≤ (s2.i 17).toInt
        rw [j2.1]
        exact Int.le_refl _
      · have q44 := hv.p44
        have q44' : (S.i 44).toInt = (s.i 11).toInt := by rw [q44.1]
        obtain ⟨a1, a2, a3, a4, a5, a6, a7, a8⟩ := cd_aim ew y0 (by have := cr.2.2; omega)
        have pR : pcC w.2 = pcC S := by unfold pcC; rw [a6]
        have pu : ∀ v : Int32, pcR (RS.setI s2 63 v) = pcR s := fun v => by
          unfold pcR
          rw [show (RS.setI s2 63 v).i 20 = s2.i 20 from rfl, j2.2.2.2.1]
        refine ⟨⟨a1, fun z => absurd z no⟩, fun k _ hk => a2 k hk, by rw [a3, a6], z2.1.tr (CD2.qe rfl), fun j _ => z2.2.1 j, z2.2.2, ?_⟩
        refine ⟨GPS.tt, SAT.tt _ _ _ _ (z2.1.tr (CD2.qe rfl)).1.2.2.2.2.1, ?_⟩
        intro FC SF nm X c h w1 W h0 h1 h2 h3 h4 h5 h6 h7 h8 h9
        rw [pu] at h9
        have h9' : GU FC SF U nm X (pcC w.2) (pcR s) (h + 1) w1 2 c := h9
        refine ⟨?_, 2, Or.inl rfl, h9'⟩
        show GU FC SF U nm X (pcC S) (pcR s) (h + 1) (w1 + (pcC w.2 - pcC S)) 2 c
        rw [pR] at h9' ⊢
        rw [Nat.sub_self]
        exact h9'
    · rw [if_pos (show s2.i 10 = sg from by rw [j2.2.1]; exact is.mp hcc)] at hV2
      obtain ⟨v5, b5, b⟩ := hf_bind hV2
      obtain ⟨v7, b7, b⟩ := hf_bind b
      obtain ⟨-, b⟩ := hf_ite b
      obtain ⟨v8, b8, b⟩ := hf_bind b
      cases b
      rw [en] at b8
      have nz : ¬ S.i 43 = 0 := fun z => h0 (hcc.symm.trans z)
      obtain ⟨v4, n1', n2', n3', n4', n5', n6', n7', n8', n9'⟩ := v2.adv hN nz e1 b5
      have t5 : (v5.i 17).toInt = (s.i 17).toInt + 1 := by
        rw [n3', t17_up (N := N) v2, j2.1]
      have p5 : phI v5 = phI s + 3 := by
        unfold phI
        rw [n5', t5, j2.2.2.2.1]
        omega
      obtain ⟨w1, w2, w3, w4, w5, w6⟩ := em_env v4 (by omega) b7
      obtain ⟨kq7, -, y11, -, -, -, -, y17, y19, -⟩ := qj2_eq w3
      obtain ⟨s6, hs6⟩ : ∃ z, z = RS.setA v7.2 66 t v7.1 := ⟨_, rfl⟩
      rw [← hs6] at b8
      have v6 : ENV d p.2 s6 := by rw [hs6]; exact setA_env (Or.inr (by omega)) w1
      have k6 : TBZ v7.2 s6 := by rw [hs6]; exact setA_tb0 (Or.inr (by omega))
      have f6 : FRB t v7.2 s6 := by rw [hs6]; exact setA_frb (Or.inr ⟨by omega, by omega, Nat.le_refl _⟩)
      have q6 : s6.a 66 t = v7.1 := by
        rw [hs6]
        show upd (v7.2.a 66) t v7.1 t = v7.1
        exact if_pos rfl
      have q64 : s6.a 64 t = K := by
        have r1 : s6.a 64 t = v7.2.a 64 t := by rw [hs6]; rfl
        rw [r1, ((FRB.of (t := t + 1) kq7) t (by omega)).1, ((FRB.of (t := t + 1) n1') t (by omega)).1, (f2 t (by omega)).1]
        exact hk
      have j6 : s6.i 17 = v7.2.i 17 ∧ s6.i 11 = v7.2.i 11 ∧ s6.i 20 = v7.2.i 20 ∧ s6.i 63 = v7.2.i 63 ∧ s6.a 22 = v7.2.a 22 ∧ s6.i 19 = v7.2.i 19 := by
        rw [hs6]
        exact ⟨rfl, rfl, rfl, rfl, rfl, rfl⟩
      have qe6 : qe s6 = qe v7.2 := by
        rw [hs6]
        rfl
      clear hs6
      have t6 : tpI s6 = t := by
        have r1 : v7.2.i 63 = v5.i 63 := congrArg (fun v : QJT => v.1.2.2.2.2.2.2.2.2.2.2.2.2.2.2.2.2.1) kq7
        have r2 : v5.i 63 = s2.i 63 := congrArg (fun v : QJT => v.1.2.2.2.2.2.2.2.2.2.2.2.2.2.2.2.2.1) n1'
        show (s6.i 63).toInt = (t : Int)
        rw [j6.2.2.2.1, r1, r2]
        exact ht2
      obtain ⟨b8', t99⟩ := r_then t6 b8
      rw [b8'] at g2
      have ck1 : CKX S p.2 := CKX.of n2' n7' n8'
      have kw := kd_X0_add N p.2 o y w e2
      obtain ⟨kpw, -, -, -, e22, -, -, -, -, -, -, e18⟩ := pj2_eq kw
      have ck2 : CKX p.2 w.2 := CKX.of kpw e22 e18
      have p21 := pj_21 n2'
      have p44 : (S.i 44).toInt + 1 ≤ (p.2.i 44).toInt := by
        rw [hv.1.2.2.2.1.1, v4.1.2.2.2.1.1, ← j2.2.2.1]
        exact n4'
      have p6 : phI s6 = phI s + 2 := by
        have : phI s6 = phI v7.2 := by
          unfold phI
          rw [j6.1, j6.2.2.1]
        rw [this, w4, p5]
        omega
      have c20 : (v5.i 20).toInt = (s.i 20).toInt := by rw [n5', j2.2.2.2.1]
      rcases hE d w.2 (TH s6 t 2 K2) U m (t + 1) q (v6.kd kw).th (TH.tp t6 (by omega)) TH.fk TH.fs (show 3 ≤ phI s6 by omega) e3 g2 with ⟨x1, x2⟩ | ⟨m2, u, g3, xo, -, -, xc⟩
      · exact Or.inl ⟨hL.2.2 n1 q.2 y (x + 1) R e4 x1, x2⟩
      · obtain ⟨o1, o2, o3, o4, o5, o6, o7, o8, o9⟩ := xo
        have u64 : u.a 64 t = K := by
          rw [(o3 t (by omega)).1, TH.fk0 (Nat.le_refl t)]
          exact q64
        have u65 : u.a 65 t = 2 := by
          rw [(o3 t (by omega)).2.1]
          exact TH.st
        have u66 : u.a 66 t = v7.1 := by
          rw [(o3 t (by omega)).2.2.1]
          exact q6
        have tu : tpI u = t := by
          rw [o2]
          omega
        have o6' : (s6.i 11).toInt + 1 ≤ (u.i 11).toInt := o6
        have o7' : phI s6 + 1 ≤ phI u := o7
        have o8' : (s6.i 17).toInt + 1 ≤ (u.i 17).toInt := o8
        have o9' : u.i 19 = s6.i 19 := o9
        have e17 : (s6.i 17).toInt = (s.i 17).toInt + 1 := by rw [j6.1, y17, t5]
        have e11 : (s.i 11).toInt + 1 ≤ (s6.i 11).toInt := by
          rw [j6.2.1, y11]
          rw [j2.2.2.1] at n4'
          exact n4'
        have hi := i11_hi hv
        have xx : (x + 1).toInt = x.toInt + 1 := ad1 hx0 (by omega)
        have d20 : (s.i 20).toInt ≤ (s6.i 20).toInt := by
          rw [j6.2.2.1, w6, c20]
          omega
        have o420 := o4.2.1
        have o420' : (s6.i 20).toInt ≤ (u.i 20).toInt := o420
        have f77 : FRB t v5 v7.2 := FRB.of kq7
        have f55 : FRB t s2 v5 := FRB.of n1'
        have sm : FRB t s u := (((((f2.mo (by omega)).tr f55).tr f77).tr f6).tr TH.frb).tr (o3.mo (by omega))
        have tb : TBZ s u := ((((k2.tr (TBZ.of n1')).tr (TBZ.of kq7)).tr k6).tr TH.tbk.1).tr o4.1
        have cd5 : CDK c0 s2 v5 := ⟨by rw [n5']; exact Int.le_refl _, fun j _ => by rw [n6']⟩
        have cd7 : CDK c0 v5 v7.2 := w2.2.wk (by omega)
        have cd6 : CDK c0 v7.2 s6 := ⟨by rw [j6.2.2.1]; exact Int.le_refl _, fun j _ => by rw [j6.2.2.2.2.1]⟩
        have cdT : CDK c0 s6 (TH s6 t 2 K2) := ⟨Int.le_refl _, fun _ _ => rfl⟩
        have cdu : CDK c0 (TH s6 t 2 K2) u := o4.2.wk (by show c0 ≤ (s6.i 20).toInt; omega)
        have cd : CDK c0 s u := ((((d2.tr cd5).tr cd7).tr cd6).tr cdT).tr cdu
        have v71 : c0 ≤ (u.a 66 t).toInt := by
          rw [u66, w5, c20]
          exact hcd
        rcases ih m2 t d y (x + 1) q.2 u U R φ c0 o1 tu u64 (Or.inr ⟨u65, v71⟩) (by omega) hφ hc0 (by omega) (by omega) (by omega) e4 g3 with z | ⟨m3, u3, y1, y2, y3, y4, y5, y6, y7, y8, y9, y10, y12, y13, y14, y15⟩
        · exact Or.inl z
        · have r9 := ((ck2.tr o5).tr y7).r21
          rw [p21] at r9
          refine Or.inr ⟨m3, u3, y1, y2, y3, sm.tr y4, tb.tr y5, cd.tr y6, ((ck1.tr ck2).tr o5).tr y7, by omega, y9, by omega, y12, fun _ => ⟨by omega, by omega⟩, y14.trans (o9'.trans (j6.2.2.2.2.2.trans (y19.trans (n9'.trans j2.2.2.2.2.2)))), fun cr y0 yS ys => ?_⟩
          obtain ⟨a1, a2, a3, a4, a5, a6, a7⟩ := adv_cd hN v2 nz e1 b5
          have crp : CRB p.2 := cr.of a1 (by omega) (by omega)
          have q44 := v4.p44
          have q44' : (p.2.i 44).toInt = (v5.i 11).toInt := by rw [q44.1]
          obtain ⟨d1, d2', ⟨d3, d3'⟩, d4, d5, d6⟩ := cd_add e2 crp.1.1 (by have := crp.1.2; omega)
          have c0w : CD1 0 (-1) S w.2 := (a1.tr d1).wk (by omega) (by omega)
          have crw : CRB w.2 := cr.of c0w (by omega) (by omega)
          obtain ⟨b1, b2, b3, b4⟩ := xc.1 crw
          have crq : CRB q.2 := crw.of b1 (by omega) (by omega)
          have p20 := v4.p20
          obtain ⟨m1, m2', m3', m4, m5, m6⟩ := cd_emit b7 p20.1 (by omega)
          have e20 : v5.i 20 = s.i 20 := a6.trans j2.2.2.2.1
          have pv : pcR v5 = pcR s := by unfold pcR; rw [e20]
          have t20 : ((TH s6 t 2 K2).i 20).toInt = (s.i 20).toInt + 1 := by
            show (s6.i 20).toInt = _
            rw [(qe_eq qe6).1.1, m3', e20]
          have u66' : u.a 66 t = s.i 20 := by rw [u66, m2', e20]
          have l21 : (S.i 21).toInt ≤ (q.2.i 21).toInt := Int.le_trans c0w.2.2.1 b1.2.2.1
          obtain ⟨⟨r1, -⟩, r2, r3, r4, r5, r6, r7⟩ := y15 crq y0 (by omega) (fun _ => by rw [u66']; exact ⟨by rw [← e20]; exact p20.1, by have := b3.1.1; omega⟩)
          have mT : CD2 (s.i 20).toInt v5 (TH s6 t 2 K2) := ((m1.wk (by rw [e20]; exact Int.le_refl _)).tr (CD2.qe qe6)).tr (CD2.qe rfl)
          have m2u : CD2 (s.i 20).toInt s2 u := ((a3 _).tr mT).tr (b3.wk (by omega))
          have h20 : 0 ≤ (s.i 20).toInt := by rw [← e20]; exact p20.1
          have sT : CD2 0 s (TH s6 t 2 K2) := z2.1.tr (((a3 _).tr mT).wk h20)
          have su : CD2 0 s u := z2.1.tr (m2u.wk h20)
          have n50 := hv.2.1.1
          have cSq : CD1 0 0 S q.2 := (c0w.tr b1).wk (by omega) (by omega)
          have pS : ((pcC S : Nat) : Int) = (S.i 20).toInt := Int.toNat_of_nonneg cr.1.1
          have pp : pcC p.2 = pcC S := by unfold pcC; rw [a4]
          have pw : pcC w.2 = pcC S + 1 := by
            rw [← pp]
            unfold pcC
            rw [d2']
            have := crp.1.1
            omega
          have pw' : ((pcC w.2 : Nat) : Int) = (w.2.i 20).toInt := Int.toNat_of_nonneg crw.1.1
          have pq : ((pcC q.2 : Nat) : Int) = (q.2.i 20).toInt := Int.toNat_of_nonneg crq.1.1
          have pR : ((pcC R.2 : Nat) : Int) = (R.2.i 20).toInt := Int.toNat_of_nonneg (by have := r1.1.1; have := crq.1.1; omega)
          have ps : ((pcR s : Nat) : Int) = (s.i 20).toInt := Int.toNat_of_nonneg h20
          have lwq := b1.1.1
          have lqR := r1.1.1
          have crR : CRB R.2 := crq.of r1 (by omega) (by omega)
          have R44 := y2.p44
          have R44' : (R.2.i 44).toInt = (u3.i 11).toInt := by rw [R44.1]
          have luu3 := r4.1.1
          have lTu := b3.1.1
          refine ⟨⟨(cSq.tr r1).wk (by omega) (by omega), fun _ => ((c0w.tr b1).tr r1).wk (by omega) (by omega)⟩, fun k hk hy => ?_, r3, su.tr r4, fun j hj => ?_, fun c2 => ?_, ?_⟩
          · rw [r2 k (by omega) hy, b2 k (by omega) (by have := c0w.2.2.1; omega), d4, (show p.2.a 17 k = S.a 17 k from a2 0 (S.i 21).toInt k (by omega) hk)]
          · have x1 := r5 j (by omega)
            have x2 := m2u.2.1 j hj
            have x3 := z2.2.1 j
            exact ⟨x1.1.trans (x2.1.trans x3.1), x1.2.1.trans (x2.2.2.trans x3.2.1), fun z => (x1.2.2 (fun z' => by rw [u66'] at z'; omega)).trans (x2.2.1.trans (x3.2.2 z))⟩
          · have := ys c2
            have ck := clampI this.1
            have x1 := r5 (s.a 66 t).toNatClampNeg (by omega)
            have x2 := m2u.2.1 (s.a 66 t).toNatClampNeg (by omega)
            rw [x1.2.2 (fun z' => by rw [u66'] at z'; omega), x2.2.1]
            exact z2.2.2 c2
          · obtain ⟨Ψ1, sat1, b4⟩ := b4
            obtain ⟨Ψ2, sat2, r7⟩ := r7
            refine ⟨_, (sat1.wd (MNO.of c0w sT) (MNO.of (CD1.rf q.2) (CD2.rf 0 u))).an sat2 (MNO.of cSq su) (MNO.of r1 r4), ?_⟩
            intro FC SF nm X c' h w1 W ps fc fy fr ng hc hh ty hW z
            obtain ⟨zA, f, hf, zB⟩ := r7 FC SF nm X c' h w1 W ps.2 (fc.sub cSq (CD1.rf R.2) (CT7.rf _ _ R.2)) fy (fr.sub su (CD2.rf 0 u3) (fun _ _ _ => ⟨rfl, rfl, rfl⟩)) (ng.mv n50 cSq su tb.1.2.2.2.1 (fun j hj => (tb.2.1 j hj).2.1) (by rw [o9'.trans (j6.2.2.2.2.2.trans (y19.trans (n9'.trans j2.2.2.2.2.2)))]; exact Int.le_refl _)) hc (by omega) ty hW z
            have tT : TBZ s (TH s6 t 2 K2) := (((k2.tr (TBZ.of n1')).tr (TBZ.of kq7)).tr k6).tr TH.tbk.1
            have z1 := b4 FC SF nm X c' h (w1 + (pcC R.2 - pcC q.2)) W 0 ps.1 (fc.sub c0w r1 (fun k k1 k2 => r2 k k2 (by have := c0w.2.2.1; rw [d5, a5] at k1; omega))) (fr.sub sT r4 (fun j j1 j2 => by
              have x := r5 j j2
              exact ⟨x.1, x.2.2 (fun z' => by rw [u66'] at z'; omega), x.2.1⟩)) (ng.mv n50 c0w sT tT.1.2.2.2.1 (fun j hj => (tT.2.1 j hj).2.1) (show (s.i 19).toInt ≤ (s6.i 19).toInt by rw [j6.2.2.2.2.2.trans (y19.trans (n9'.trans j2.2.2.2.2.2))]; exact Int.le_refl _)) hc (show ((2 * h + 0 + msr c' : Nat) : Int) ≤ (s6.i 11).toInt by omega) ty (by omega) True.intro zA
            have u21 := fr.2.1 (pcR s) (by omega) (by omega)
            have x5 := r5 (pcR s) (by omega)
            have x3 := b3.2.1 (pcR s) (by omega)
            have xq := (qe_eq qe6).2.1
            have o21 : U.a 21 (pcR s) = op := by
              rw [u21.1, x5.1, x3.1]
              show s6.a 21 (pcR s) = op
              rw [xq, ← pv]
              exact m4
            have o22 : (U.a 22 (pcR s)).toInt = ((pcR u : Nat) : Int) := by
              have x6 := r6 u65
              have ck : (u.a 66 t).toNatClampNeg = pcR s := by rw [u66']; rfl
              rw [ck] at x6
              rw [u21.2.1, x6]
              exact (Int.toNat_of_nonneg (by omega)).symm
            have f15 := fc.2.1 (pcC S) (by omega) (by omega)
            have g15 := (cSq.tr r1)
            have k15 := (b1.tr r1).2.1 (pcC S) (by omega)
            have o15 : SF.a 15 (pcC S) = o := by
              rw [f15.1, k15.1, ← pp]
              exact d3
            have o16 : SF.a 16 (pcC S) = y := by
              rw [f15.2, k15.2, ← pp]
              exact d3'
            have lR := crR.1.2
            have pqx : PQX SF U (pcC S) (pcR s) := ⟨by omega, by have := fr.1.2.1; omega, fr.1.2.2⟩
            have pqr : PQX SF U (pcC R.2) (pcR s) := ⟨by omega, by have := fr.1.2.1; omega, fr.1.2.2⟩
            rw [pw, show pcR (TH s6 t 2 K2) = pcR s + 1 by unfold pcR; rw [t20]; omega] at z1
            refine ⟨?_, F, Or.inr rfl, gs_rkp (o := o) pqr hc (by rw [o21]; exact ko) hf o22 zB⟩
            have z2' := gs_kepf pqx hc (by rw [o15, o21]; exact ko) hf (p' := pcC R.2) (by rw [o16, fy, r3]; exact pR.symm) o22 (by omega) zB z1
            rw [show w1 + (pcC R.2 - pcC S) = w1 + (pcC R.2 - pcC q.2) + (pcC q.2 - (pcC S + 1)) + 1 by omega]
            exact z2'
