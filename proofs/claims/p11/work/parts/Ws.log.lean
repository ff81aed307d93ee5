/-! both readers: log, return, yield -/
theorem XO.pre {d : Int32} {t : Nat} {S P R : CS} {s q u : RS} (f : FRB t s q) (k : TBK s q) (c : CKX S P) (h11 : (s.i 11).toInt ≤ (q.i 11).toInt) (hp : phI s ≤ phI q) (h17 : (s.i 17).toInt ≤ (q.i 17).toInt) (h19 : q.i 19 = s.i 19) (x : XO d t P q R u) : XO d t S s R u := by
  obtain ⟨w1, w2, w3, w4, w5, w6, w7, w8, w9⟩ := x
  exact ⟨w1, w2, f.tr w3, k.tr w4, c.tr w5, by omega, by omega, by omega, w9.trans h19⟩
theorem ENV.s36 {d : Int32} {S : CS} {s : RS} {v : Int32} (h : ENV d S s) : ENV d (CS.setI S 36 v) s := by
  obtain ⟨⟨h1, h2, h3, h4, h5, h6, h7, h8⟩, n, o, c, l, k, ⟨r1, r2, r3, r4, r5, r6, r7, r8, r9, r10, r11⟩⟩ := h
  exact ⟨⟨h1, h2, h3, h4, h5, h6, h7, h8⟩, n, o, c, l, k, ⟨r1, r2, r3, r4, r5, r6, r7, r8.mv rfl rfl rfl rfl ⟨rfl, rfl, rfl⟩ r8.2.2.2.2.2.2 (Int.le_refl _), r9, r10, r11⟩⟩
theorem CKX.s36 {S R : CS} (h : CKX S R) (h36 : S.i 36 = 1) : CKX S (CS.setI R 36 1) := by
  obtain ⟨⟨a1, a2, a3, a4, a5, a6⟩, b1, b2, b3, b4, b5, b6, b7, b8⟩ := h
  exact ⟨⟨a1, (ci_at _ _ _).trans h36.symm, a3, a4, a5, a6⟩, b1, b2, b3, b4, b5, b6, b7, b8⟩
theorem CKX.s36b {S R : CS} {v : Int32} (h : CKX S R) (h36 : S.i 36 = 1) : CKX S (CS.setI (CS.setI R 36 v) 36 1) := by
  obtain ⟨⟨a1, a2, a3, a4, a5, a6⟩, b1, b2, b3, b4, b5, b6, b7, b8⟩ := h
  exact ⟨⟨a1, (ci_at _ _ _).trans h36.symm, a3, a4, a5, a6⟩, b1, b2, b3, b4, b5, b6, b7, b8⟩
theorem XO.s36 {d : Int32} {t : Nat} {S R : CS} {s u : RS} (h : XO d t S s R u) (h36 : S.i 36 = 1) : XO d t S s (CS.setI R 36 1) u := by
  obtain ⟨w1, w2, w3, w4, w5, w6⟩ := h
  exact ⟨w1.s36, w2, w3, w4, w5.s36 h36, w6⟩
theorem XO.s36b {d : Int32} {t : Nat} {S R : CS} {s u : RS} {v : Int32} (h : XO d t S s R u) (h36 : S.i 36 = 1) : XO d t S s (CS.setI (CS.setI R 36 v) 36 1) u := by
  obtain ⟨w1, w2, w3, w4, w5, w6⟩ := h
  exact ⟨w1.s36.s36, w2, w3, w4, w5.s36b h36, w6⟩
/-- both flags of a place -/
def GU2 (FC : Nat → Prop) (SF : CS) (U : RS) (nm : Nat → Nat → Prop) (X : Als) (p q h w : Nat) (c : List Ent) : Prop := GU FC SF U nm X p q h w 0 c ∧ GU FC SF U nm X p q h w 1 c
def JT9 : Type := (Nat → Prop) → CS → (Nat → Nat → Prop) → Als → List Ent → Nat → Nat → Prop
/-- the code of a statement behind its step: if T, its first place is good -/
def CDG (a : Int) (T : JT9) (U : RS) (S : CS) (s : RS) (R : CS) (u : RS) : Prop := CRB S → CD1 a (-1) S R ∧ CT7 0 (S.i 21).toInt S R ∧ CD2 (s.i 20).toInt s u ∧ ∃ Ψ : GPS, SAT Ψ S s R u ∧ ∀ (FC : Nat → Prop) (SF : CS) (nm : Nat → Nat → Prop) (X : Als) (c : List Ent) (h w2 W g0 : Nat), Ψ FC nm → FGC S R SF → FGR s u U → NMG nm c S s → HC0 nm h c → ((2 * h + 0 + msr c : Nat) : Int) ≤ (s.i 11).toInt → TYC SF U (GU FC SF U nm X) W c → W + 1 ≤ w2 → T FC SF nm X c h w2 → GU FC SF U nm X (pcC S) (pcR s) h (w2 + (pcC R - pcC S)) g0 c
/-- the place behind it is good -/
def JGO (U : RS) (R : CS) (u : RS) : JT9 := fun FC SF nm X c h w2 => ∃ w : Nat, w ≤ w2 ∧ GU2 FC SF U nm X (pcC R) (pcR u) h w c
def JNO : JT9 := fun _ _ _ _ _ _ _ => True
theorem HRW.up {s0 : CS} {r0 : RS} {A : Als} {e : Ent} {c : List Ent} {W W' : Nat} (l : W ≤ W') : ∀ (n p : Nat) (k : Int32), HRW s0 r0 A e c W n p k → HRW s0 r0 A e c W' n p k := by
  intro n
  induction n with
  | zero => intro _ _ h; exact h
  | succ n ih =>
    intro p k h
    obtain ⟨h0, h⟩ := h
    refine ⟨h0, ?_⟩
    rcases h with h | ⟨h1, j, pb, qb, z, l', w, a2, a3, a4, a5, a6, ⟨a7, a8⟩, a9⟩ | ⟨h1, p', h2, h3⟩
    · exact Or.inl h
    · exact Or.inr (Or.inl ⟨h1, j, pb, qb, z, l', w, a2, a3, a4, a5, a6, ⟨a7, by omega⟩, ih _ _ a9⟩)
    · exact Or.inr (Or.inr ⟨h1, p', h2, ih _ _ h3⟩)
theorem TYC.up {s0 : CS} {r0 : RS} {A : Als} {W W' : Nat} (l : W ≤ W') : ∀ {c : List Ent}, TYC s0 r0 A W c → TYC s0 r0 A W' c
  | [], h => ⟨h.1, Nat.le_trans h.2 l⟩
  | _ :: _, ⟨h1, h2, h3⟩ => ⟨fun z => by
      obtain ⟨n, p, a, b, d⟩ := h1 z
      exact ⟨n, p, a, b, HRW.up l n p _ d⟩, fun z => by
      rcases h2 z with h | ⟨p, q, w, a, b, d, f, g⟩
      · exact Or.inl h
      · exact Or.inr ⟨p, q, w, a, b, d, f, by omega⟩, TYC.up l h3⟩
theorem EUN.pre {o x z zx : Int32} {U : RS} {S P R : CS} {s q u : RS} {a b k k' : Int} (h : EUN k o x z zx U P q R u) (a1 : CD1 a b S P) (ha : a ≤ 0) (ha' : a + k ≤ k') (hb : b ≤ 0) (t : CT7 0 (S.i 21).toInt S P) (y : ∀ c : Int, CD2 c s q) (pC : P.i 20 = S.i 20) (pR : q.i 20 = s.i 20) (n50 : S.i 50 = s.i 38) (e38 : q.i 38 = s.i 38) (a40 : ∀ j : Nat, (j : Int) < (s.i 38).toInt → q.a 40 j = s.a 40 j) (l11 : (s.i 11).toInt ≤ (q.i 11).toInt) (l19 : (s.i 19).toInt ≤ (q.i 19).toInt) : EUN k' o x z zx U S s R u := by
  intro cr
  obtain ⟨b1, b2, b3, Ψ, b4, sat, h⟩ := h (cr.of a1 ha hb)
  have pC' : pcC P = pcC S := by unfold pcC; rw [pC]
  have pR' : pcR q = pcR s := by unfold pcR; rw [pR]
  refine ⟨(a1.tr b1).wk (by omega) (by omega), t.tr (b2.wk (Int.le_refl _) a1.2.2.1), (y _).tr (b3.wk (by rw [pR]; exact Int.le_refl _)), Ψ, by rw [← pC']; exact b4, sat.wd (MNO.of a1 (y 0)) (MNO.of (CD1.rf R) (CD2.rf 0 u)), fun FC SF nm X c h' w W g0 ps fc fr ng hc hh ty hW last => ?_⟩
  have z := h FC SF nm X c h' w W g0 ps (fc.sub a1 (CD1.rf R) (CT7.rf _ _ R)) (fr.sub (y 0) (CD2.rf 0 u) (fun _ _ _ => ⟨rfl, rfl, rfl⟩)) (ng.mv n50 a1 (y 0) e38 a40 l19) hc (by omega) ty hW last
  rw [pC', pR'] at z
  exact z
theorem YDP.pre {s q u : RS} (h : YDP q u) (e43 : q.i 43 = s.i 43) (e : ∀ g : Nat, (g : Int) < (s.i 43).toInt → q.a 44 g = s.a 44 g ∧ q.a 47 g = s.a 47 g) : YDP s u := fun g g1 g2 g3 => by
  rw [h g (by rw [e43]; exact g1) (by rw [(e g g1).1]; exact g2) (fun g' k1 k2 => by rw [e43] at k2; rw [(e g' k2).1]; exact g3 g' k1 k2)]
  exact (e g g1).2
/-- a formula and its last instruction: a statement -/
theorem EUN.cdg {o x z zx : Int32} {U : RS} {S R R' : CS} {s u : RS} {T : JT9} {k : Int} (h : EUN k o x z zx U S s R u) (eR : pe R' = pe R) (e21 : R'.i 21 = R.i 21) (e50 : R'.i 50 = R.i 50) (e48 : R'.a 48 = R.a 48) (e49 : R'.a 49 = R.a 49) (e44 : R'.i 44 = R.i 44) (last : ∀ (FC : Nat → Prop) (SF : CS) (nm : Nat → Nat → Prop) (X : Als) (c : List Ent) (h w2 W p q : Nat), HC0 nm h c → h < 600 → TYC SF U (GU FC SF U nm X) W c → W + 1 ≤ w2 → T FC SF nm X c h w2 → NMG nm c S s → PQX SF U p q → SF.a 15 p = o → SF.a 16 p = x → U.a 21 q = z → U.a 22 q = zx → U.a 23 q = u.a 23 q → p + 1 = pcC R' → q + 1 = pcR u → GU FC SF U nm X p q (h + 1) (w2 + 1) 0 c) (l11 : (s.i 11).toInt ≤ 900) : CDG k T U S s R' u := by
  intro cr
  obtain ⟨b1, b2, b3, Ψ, b4, sat, h⟩ := h cr
  have k1 : CD1 0 0 R R' := (CD1.pe (b := 0) eR e21 e50 e48 e49 (by rw [e44]; omega)).wk (by omega) (by omega)
  obtain ⟨p20, p15, p16, p17, p23, -⟩ := pe_eq eR
  have k7 : ∀ a b : Int, CT7 a b R R' := fun a b => CT7.eq p17
  have pC : pcC R' = pcC R := by unfold pcC; rw [p20]
  have l20 := b1.1.1
  refine ⟨(b1.tr k1).wk (by omega) (by omega), b2.tr (k7 _ _), b3, Ψ, sat.wd (MNO.of (CD1.rf S) (CD2.rf 0 s)) (MNO.of k1 (CD2.rf 0 u)), fun FC SF nm X c h' w2 W g0 ps fc fr ng hc hh ty hW ht => ?_⟩
  have fc' : FGC S R SF := fc.sub (CD1.rf S) k1 (k7 _ _)
  have pSR := b4
  have z := h FC SF nm X c h' (w2 + 1) W g0 ps fc' fr ng hc hh ty (by omega) (fun p q pq x1 x2 x3 x4 x5 x6 x7 => last FC SF nm X c h' w2 W p q hc (by omega) ty hW ht ng pq x1 x2 x3 x4 x5 (by rw [pC]; exact x6) x7)
  rw [pC, show w2 + (pcC R - pcC S) = w2 + 1 + (pcC R - 1 - pcC S) by omega]
  exact z
/-- a statement that ends in its turn: F in the class, frame K at the word tok in the reference -/
def SXK (N : Nat) (K tok : Int32) (P : CS → RS → Prop) (F : CS → Option (Unit × CS)) (Q : RS → CS → RS → CS → RS → Prop) : Prop := ∀ (d : Int32) (S : CS) (s U : RS) (n t : Nat) (R : Unit × CS), ENV d S s → P S s → S.i 36 = 1 → tpI s = t → s.a 64 t = K → s.a 65 t = 0 → 2 ≤ phI s → S.i 43 = tok → F S = some R → f_X12_parse_10 N n s = some U → (¬ R.2.i 32 = 0 ∧ ¬ U.i 15 = 0) ∨ ∃ (m : Nat) (u : RS), f_X12_parse_10 N m u = some U ∧ XO d t S s (CS.setI R.2 36 1) u ∧ (u.i 75 = R.2.i 36 ∧ (R.2.i 36 = 0 ∨ R.2.i 36 = 1)) ∧ Q U S s R.2 u
/-- log, return, yield: from the word on -/
theorem y_end0 {N : Nat} (hN : 1000 ≤ N) {E1 : CS → Option (Unit × CS)} {E2 : CS → Option (Int32 × CS)} (hm1 : ∀ σ, Kf (CS.i σ 32) (E1 σ)) (hm2 : ∀ σ, Kf (CS.i σ 32) (E2 σ)) (hE : SXR N 18 E1) {d : Int32} {S : CS} {s q V U : RS} {n t : Nat} {v o x : Int32} {p1 p w r : Unit × CS} (hv : ENV d S s) (ht : tpI s = t) (hk : s.a 64 t = 6) (h10 : s.i 10 = v) (hv3 : v = 412 ∨ v = 420 ∨ v = 431) (h2 : 2 ≤ phI s) (h43 : ¬ S.i 43 = 0) (e0 : f_X9_advance N S = some p1) (e1 : f_X1_expression N E1 E2 p1.2 = some p) (e2 : f_X0_add N p.2 o x = some w) (e3 : f_X1_expect N w.2 59 = some r) (hq : f_X12_next N (RS.setA s 66 t (s.i 10)) = some q) (hV : f_X12_then N q 1 16 = some V) (g : f_X12_parse_10 N n V = some U) : (¬ r.2.i 32 = 0 ∧ ¬ U.i 15 = 0) ∨ ∃ (m : Nat) (u : RS), f_X12_parse_10 N m u = some U ∧ XO d t S s r.2 u ∧ (u.i 75 = 1 ↔ v = 412) ∧ (u.i 75 = 0 ∨ u.i 75 = 1) ∧ EUN (-1) o x (if v = 412 then 16 else if v = 420 then 17 else 18) 0 U S s r.2 u ∧ YDP s u := by
  obtain ⟨s1, hs1⟩ : ∃ y, y = RS.setA s 66 t (s.i 10) := ⟨_, rfl⟩
  rw [← hs1] at hq
  have ev1 : ENV d S s1 := by rw [hs1]; exact setA_env (Or.inr (by omega)) hv
  have f1 : FRB t s s1 := by rw [hs1]; exact setA_frb (Or.inr ⟨by omega, by omega, Nat.le_refl _⟩)
  have k1 : TBK s s1 := by rw [hs1]; exact ⟨setA_tb0 (Or.inr (by omega)), Int.le_refl _, fun _ _ => rfl⟩
  have a66 : s1.a 66 t = v := by
    rw [hs1, ← h10]
    exact setA_at
  have a64 : s1.a 64 t = 6 := by
    rw [hs1]
    exact hk
  have i1 : s1.i = s.i := by rw [hs1]; rfl
  have qe1 : qe s1 = qe s := by rw [hs1]; rfl
  have sa1 : ∀ k : Nat, k ≠ 66 → s1.a k = s.a k := by
    rw [hs1]
    exact fun k h => setA_nk h
  clear hs1
  have t1 : tpI s1 = t := by
    show (s1.i 63).toInt = (t : Int)
    rw [i1]
    exact ht
  obtain ⟨a1, a2, a3, a4, a5, a6, a7, a8, a9, a10⟩ := ev1.adv hN h43 e0 hq
  have tq := qj_63 a2 t1
  have fq : FRB (t + 1) s1 q := FRB.of a2
  have q17 : (q.i 17).toInt = (s.i 17).toInt + 1 := by rw [a4, t17_up (N := N) ev1, i1]
  have pq : phI q = phI s + 3 := by
    unfold phI
    rw [a6, q17, i1]
    omega
  have a5' : (s.i 11).toInt + 1 ≤ (q.i 11).toInt := by
    rw [i1] at a5
    exact a5
  rcases y_end1 hN hm1 hm2 hE a1 tq ((fq t (by omega)).1.trans a64) ((fq t (by omega)).2.2.1.trans a66) hv3 (by omega) e1 e2 e3 hV g with z | ⟨m, u, g3, xo, x1, x2, eu, yd⟩
  · exact Or.inl z
  · refine Or.inr ⟨m, u, g3, XO.pre (f1.tr (FRB.of a2)) (k1.tr (TBK.of a2 (by rw [a6]; exact Int.le_refl _) (fun j _ => by rw [a7]))) (CKX.of a3 a8 a9) (by omega) (by omega) (by omega) (by rw [a10, i1]) xo, x1, x2, ?_, ?_⟩
    · obtain ⟨k1', k2', k3', k4', k5', k6', -⟩ := adv_cd hN ev1 h43 e0 hq
      have t38 := (TBK.of a2 (by rw [a6]; exact Int.le_refl _) (fun j _ => by rw [a7]) : TBK s1 q)
      exact eu.pre k1' (by omega) (by omega) (by omega) (k2' _ _) (fun c => (CD2.qe qe1).tr (k3' c)) k4' (k6'.trans (by rw [i1])) hv.2.1.1 (t38.1.1.2.2.2.1.trans (by rw [i1])) (fun j hj => (t38.1.2.1 j (by rw [i1]; exact hj)).2.1.trans (by rw [sa1 40 (by decide)])) (by omega) (by rw [a10, i1]; exact Int.le_refl _)
    · have t38 := (TBK.of a2 (by rw [a6]; exact Int.le_refl _) (fun j _ => by rw [a7]) : TBK s1 q)
      exact yd.pre (t38.1.1.2.2.2.2.1.trans (by rw [i1])) (fun g hg => by
        have z := t38.1.2.2.1 g (by rw [i1]; exact hg)
        exact ⟨z.1.trans (by rw [sa1 44 (by decide)]), z.2.2.2.1.trans (by rw [sa1 47 (by decide)])⟩)
theorem sx_log {N : Nat} (hN : 1000 ≤ N) {E1 : CS → Option (Unit × CS)} {E2 : CS → Option (Int32 × CS)} (hm1 : ∀ σ, Kf (CS.i σ 32) (E1 σ)) (hm2 : ∀ σ, Kf (CS.i σ 32) (E2 σ)) (hE : SXR N 18 E1) : SXK N 6 202 (fun _ _ => True) (fun S => (f_X9_advance N S).bind fun p41 => (f_X1_expression N E1 E2 p41.2).bind fun p45 => (f_X0_add N p45.2 52 0).bind fun p49 => (f_X1_expect N p49.2 59).bind fun p53 => some ((), p53.2)) (fun U S s R u => R.i 36 = 1 ∧ CDG (-1) (JGO U R u) U S s R u) := by
  intro d S s U n t R hv _ h36 ht hk hs h2 h43 e g
  obtain ⟨p1, e1, e⟩ := hf_bind e
  obtain ⟨p2, e2, e⟩ := hf_bind e
  obtain ⟨p3, e3, e⟩ := hf_bind e
  obtain ⟨p4, e4, e⟩ := hf_bind e
  cases e
  have k10 := (tk_is hv (a := 202) (b := 412) (Or.inr ⟨by decide, by decide⟩) (by decide)).mp h43
  obtain ⟨m, V, hV, g2⟩ := rl_6 g ht hv.1.2.1 hk
  unfold f_X12_ending at hV
  obtain ⟨hib, hV⟩ := hf_ite hV
  rw [tp_nat ht, if_pos hs, if_neg (show ¬ s.i 10 = 420 by rw [k10]; decide)] at hV
  unfold f_X12_ending_36 f_X12_ending_63 at hV
  rw [if_neg (show ¬ (RS.setA s 66 t (s.i 10)).i 10 = 431 from fun z => absurd (k10.symm.trans z) (by decide))] at hV
  obtain ⟨q, hq, hV⟩ := hf_bind hV
  rw [ob_id] at hV
  rcases y_end0 hN hm1 hm2 hE hv ht hk k10 (Or.inl rfl) h2 (by rw [h43]; decide) e1 e2 e3 e4 hq hV g2 with z | ⟨m2, u, g3, xo, x1, x2, eu, -⟩
  · exact Or.inl z
  · refine Or.inr ⟨m2, u, g3, xo.s36 h36, ?_, xo.2.2.2.2.1.1.2.1.trans h36, ?_⟩
    rotate_left
    · rw [if_pos rfl] at eu
      refine eu.cdg rfl rfl rfl rfl rfl rfl (fun FC SF nm X c h w2 W p q hc h6 ty hW ht ng pq x1 x2 x3 x4 x5 x6 x7 => ?_) (i11_hi hv).2
      obtain ⟨w, hw, hg⟩ := ht
      exact gi_UOut (pq.hc (hc.up (Nat.le_succ _))) pq.2.1 ⟨x1, x3, h, rfl, w, by omega, by rw [x6, x7]; exact hg.1⟩
    rw [x1.mpr rfl]
    exact ⟨h36.symm.trans xo.2.2.2.2.1.1.2.1.symm, Or.inr (xo.2.2.2.2.1.1.2.1.trans h36)⟩
/-- in the arm of a choice: both know it -/
def IAR (S : CS) (s : RS) : Prop := (0 ≤ (S.i 56).toInt ↔ ∃ g : Nat, (g : Int) < (s.i 43).toInt ∧ s.a 44 g = 3) ∧ (0 ≤ (S.i 56).toInt → (S.i 56).toInt < (S.i 53).toInt ∧ (S.i 56).toInt < 400 ∧ ∃ a : Nat, S.r 51 (S.i 56).toInt.toNat = some a)
theorem y_isin {N : Nat} {s : RS} : ∀ (n : Nat) (x : Int32) (P : Int32 × RS), 0 ≤ x.toInt → f_X12_isInArms_2 N n s x = some P → P.2 = s ∧ ((P.1 = 1 ∧ ∃ g : Nat, (g : Int) < (s.i 43).toInt ∧ s.a 44 g = 3) ∨ (P.1 = 0 ∧ ∀ g : Nat, x.toInt ≤ (g : Int) → (g : Int) < (s.i 43).toInt → ¬ s.a 44 g = 3))
  | 0, _, _, _, e => by cases e
  | n + 1, x, P, h0, e => by
    have e' : b_X12_isInArms_2 N (f_X12_isInArms_2 N n) s x = some P := e
    unfold b_X12_isInArms_2 at e'
    by_cases c : s.i 43 ≤ x
    · rw [if_pos c] at e'
      cases e'
      have := le_int c
      exact ⟨rfl, Or.inr ⟨rfl, fun g g1 g2 => by omega⟩⟩
    · rw [if_neg c] at e'
      have lt := lt_int (Int32.not_le.mp c)
      obtain ⟨hib, e'⟩ := hf_ite e'
      have ck := clampI h0
      have h460 := hib.2
      by_cases c3 : s.a 44 (x.toNatClampNeg) = 3
      · rw [if_pos c3] at e'
        cases e'
        exact ⟨rfl, Or.inl ⟨rfl, x.toNatClampNeg, by omega, c3⟩⟩
      · rw [if_neg c3] at e'
        have e1 : (x + 1).toInt = x.toInt + 1 := ad1 h0 (by omega)
        obtain ⟨p1, p2⟩ := y_isin n (x + 1) P (by omega) e'
        refine ⟨p1, p2.imp id (fun ⟨q1, q2⟩ => ⟨q1, fun g g1 g2 => ?_⟩)⟩
        by_cases z : (g : Int) = x.toInt
        · have : g = x.toNatClampNeg := by omega
          rw [this]
          exact c3
        · exact q2 g (by omega) g2
theorem sx_return {N : Nat} (hN : 1000 ≤ N) {E1 : CS → Option (Unit × CS)} {E2 : CS → Option (Int32 × CS)} (hm1 : ∀ σ, Kf (CS.i σ 32) (E1 σ)) (hm2 : ∀ σ, Kf (CS.i σ 32) (E2 σ)) (hE : SXR N 18 E1) : SXK N 6 210 IAR (f_X7_giveBack N E1 E2) (fun U S s R u => CDG (-1) JNO U S s R u) := by
  intro d S s U n t R hv hA h36 ht hk hs h2 h43 e g
  have k10 := (tk_is hv (a := 210) (b := 420) (Or.inr ⟨by decide, by decide⟩) (by decide)).mp h43
  obtain ⟨m, V, hV, g2⟩ := rl_6 g ht hv.1.2.1 hk
  unfold f_X12_ending at hV
  obtain ⟨hib, hV⟩ := hf_ite hV
  rw [tp_nat ht, if_pos hs, if_pos k10] at hV
  obtain ⟨P, hP, hV⟩ := hf_bind hV
  unfold f_X12_isInArms at hP
  obtain ⟨p1, p2⟩ := y_isin N 0 P (by decide) hP
  unfold f_X7_giveBack at e
  have a44 : ∀ g : Nat, (RS.setA s 66 t (s.i 10)).a 44 g = s.a 44 g := fun _ => rfl
  by_cases c : S.i 56 < 0
  · rw [if_pos c] at e
    have c' : ¬ 0 ≤ (S.i 56).toInt := by
      have := lt_int c
      rw [z_t0] at this
      omega
    have P0 : P.1 = 0 := by
      rcases p2 with ⟨-, q⟩ | ⟨q, -⟩
      · exact absurd (hA.1.mpr q) c'
      · exact q
    rw [if_pos P0, p1] at hV
    unfold f_X12_ending_36 f_X12_ending_63 at hV
    rw [if_neg (show ¬ (RS.setA s 66 t (s.i 10)).i 10 = 431 from fun z => absurd (k10.symm.trans z) (by decide))] at hV
    obtain ⟨q, hq, hV⟩ := hf_bind hV
    rw [ob_id] at hV
    unfold f_X7_giveBack_22 at e
    obtain ⟨p1', e1, e⟩ := hf_bind e
    obtain ⟨p2', e2, e⟩ := hf_bind e
    obtain ⟨p3, e3, e⟩ := hf_bind e
    obtain ⟨p4, e4, e⟩ := hf_bind e
    cases e
    rcases y_end0 hN hm1 hm2 hE hv ht hk k10 (Or.inr (Or.inl rfl)) h2 (by rw [h43]; decide) e1 e2 e3 e4 hq hV g2 with z | ⟨m2, u, g3, xo, x1, x2, eu, -⟩
    · exact Or.inl z
    · refine Or.inr ⟨m2, u, g3, xo.s36b h36, ?_, ?_⟩
      rotate_left
      · rw [if_neg (by decide), if_pos rfl] at eu
        refine eu.cdg rfl rfl rfl rfl rfl rfl (fun FC SF nm X c h w2 W p q hc h6 ty hW ht ng pq x1 x2 x3 x4 x5 x6 x7 => ?_) (i11_hi hv).2
        exact gi_VRet (pq.hc (hc.up (Nat.le_succ _))) pq.2.1 ⟨h, w2 - 1, rfl, by omega, hc.2.2.2, ty.up (by omega), Or.inl ⟨x1, x3⟩⟩
      have n1 : ¬ u.i 75 = 1 := fun z => absurd (x1.mp z) (by decide)
      rw [x2.resolve_right n1]
      exact ⟨(ci_at _ _ _).symm, Or.inl (ci_at _ _ _)⟩
  · rw [if_neg c] at e
    obtain ⟨f, ef, e⟩ := hf_bind e
    have ff := y_fail (by decide) ef
    have c' : 0 ≤ (S.i 56).toInt := by
      have := le_int (Int32.not_lt.mp c)
      rw [z_t0] at this
      exact this
    have P1 : ¬ P.1 = 0 := fun q => by
      rcases p2 with ⟨z, -⟩ | ⟨-, z⟩
      · rw [z] at q
        exact n10 q
      · obtain ⟨g, g1, g2⟩ := hA.1.mp c'
        exact z g (by rw [z_t0]; omega) g1 g2
    rw [if_neg P1, p1] at hV
    unfold f_X12_ending_53 at hV
    rw [e_fail, ob_some, if_pos (show (RS.setA s 66 t (s.i 10)).i 15 = 0 from hv.1.2.1)] at hV
    cases hV
    refine Or.inl ⟨by rw [kF_X7_giveBack_22 N E1 E2 hm1 hm2 f.2 R e ff]; exact ff, u_flt g2 ?_⟩
    show ¬ (5 : Int32) = 0
    decide
theorem e_row {N : Nat} {S : CS} {x : Int32} {P : Option Nat × CS} (e : f_X6_row N S x = some P) : P.2 = S ∧ ((0 ≤ x.toInt ∧ x.toInt < (S.i 53).toInt ∧ x.toInt < 400 ∧ P.1 = S.r 51 x.toInt.toNat) ∨ ((x.toInt < 0 ∨ (S.i 53).toInt ≤ x.toInt ∨ 400 ≤ x.toInt) ∧ P.1 = none)) := by
  unfold f_X6_row f_X6_row_30 at e
  have e4 : (400 : Int32).toInt = 400 := by decide
  by_cases c : x < 0
  · rw [if_pos c] at e
    cases e
    have := lt_int c
    rw [z_t0] at this
    exact ⟨rfl, Or.inr ⟨Or.inl this, rfl⟩⟩
  · rw [if_neg c] at e
    have x0 := le_int (Int32.not_lt.mp c)
    rw [z_t0] at x0
    by_cases c2 : S.i 53 ≤ x
    · rw [if_pos c2] at e
      cases e
      exact ⟨rfl, Or.inr ⟨Or.inr (Or.inl (le_int c2)), rfl⟩⟩
    · rw [if_neg c2] at e
      by_cases c3 : 400 ≤ x
      · rw [if_pos c3] at e
        cases e
        have := le_int c3
        exact ⟨rfl, Or.inr ⟨Or.inr (Or.inr (by omega)), rfl⟩⟩
      · rw [if_neg c3] at e
        obtain ⟨-, e⟩ := hf_ite e
        have l2 := lt_int (Int32.not_le.mp c2)
        have l3 := lt_int (Int32.not_le.mp c3)
        have fin : P = (S.r 51 x.toNatClampNeg, S) := by
          cases hr : S.r 51 x.toNatClampNeg with
          | none =>
            rw [hr] at e
            exact (Option.some.inj e).symm
          | some a =>
            rw [hr] at e
            exact (Option.some.inj e).symm
        rw [fin]
        exact ⟨rfl, Or.inl ⟨x0, l2, by omega, rfl⟩⟩
theorem sx_yield {N : Nat} (hN : 1000 ≤ N) {E1 : CS → Option (Unit × CS)} {E2 : CS → Option (Int32 × CS)} (hm1 : ∀ σ, Kf (CS.i σ 32) (E1 σ)) (hm2 : ∀ σ, Kf (CS.i σ 32) (E2 σ)) (hE : SXR N 18 E1) : SXK N 6 221 IAR (f_X7_yieldValue N E1 E2) (fun U S s R u => YDP s u ∧ ∃ a : Nat, S.r 51 (S.i 56).toInt.toNat = some a ∧ 0 ≤ (S.i 56).toInt ∧ CDG (-1) (fun FC SF nm X c h w2 => GF2 FC SF U (GU FC SF U nm X) c h (S.o a 9 * 32 + S.o a 2) (u.a 23 (pcR u - 1)) (w2 - 1)) U S s R u) := by
  intro d S s U n t R hv hA h36 ht hk hs h2 h43 e g
  have k10 := (tk_is hv (a := 221) (b := 431) (Or.inr ⟨by decide, by decide⟩) (by decide)).mp h43
  obtain ⟨m, V, hV, g2⟩ := rl_6 g ht hv.1.2.1 hk
  unfold f_X12_ending at hV
  obtain ⟨hib, hV⟩ := hf_ite hV
  rw [tp_nat ht, if_pos hs, if_neg (show ¬ s.i 10 = 420 by rw [k10]; decide)] at hV
  unfold f_X12_ending_36 at hV
  rw [if_pos (show (RS.setA s 66 t (s.i 10)).i 10 = 431 from k10)] at hV
  obtain ⟨P, hP, hV⟩ := hf_bind hV
  unfold f_X12_isInArms at hP
  obtain ⟨p1, p2⟩ := y_isin N 0 P (by decide) hP
  unfold f_X7_yieldValue at e
  obtain ⟨r, er, e⟩ := hf_bind e
  obtain ⟨r1, r2⟩ := e_row er
  rcases r2 with ⟨y1, y2, y3, y4⟩ | ⟨y1, y4⟩
  · obtain ⟨-, -, a, ha⟩ := hA.2 y1
    rw [y4, ha] at e
    have P1 : ¬ P.1 = 0 := fun q => by
      rcases p2 with ⟨z, -⟩ | ⟨-, z⟩
      · rw [z] at q
        exact n10 q
      · obtain ⟨g, g1, g2⟩ := hA.1.mp y1
        exact z g (by rw [z_t0]; omega) g1 g2
    rw [if_neg P1, p1] at hV
    unfold f_X12_ending_63 at hV
    obtain ⟨q, hq, hV⟩ := hf_bind hV
    rw [ob_id] at hV
    have e' : ((f_X9_advance N r.2).bind fun p11 => (f_X1_expression N E1 E2 p11.2).bind fun p15 => if oK p15.2 a 0 then (f_X0_add N p15.2 61 (((CS.o p15.2 a 9) * 32) + (CS.o p15.2 a 2))).bind fun p20 => (f_X1_expect N p20.2 59).bind fun p24 => some ((), CS.setI p24.2 36 0) else none) = some R := e
    rw [r1] at e'
    obtain ⟨p1', e1, e'⟩ := hf_bind e'
    obtain ⟨p2', e2, e'⟩ := hf_bind e'
    obtain ⟨-, e'⟩ := hf_ite e'
    obtain ⟨p3, e3, e'⟩ := hf_bind e'
    obtain ⟨p4, e4, e'⟩ := hf_bind e'
    cases e'
    rcases y_end0 hN hm1 hm2 hE hv ht hk k10 (Or.inr (Or.inr rfl)) h2 (by rw [h43]; decide) e1 e2 e3 e4 hq hV g2 with z | ⟨m2, u, g3, xo, x1, x2, eu, yd⟩
    · exact Or.inl z
    · have ckr := xo.2.2.2.2.1
      refine Or.inr ⟨m2, u, g3, xo.s36b h36, ?_, yd, a, ha, y1, ?_⟩
      rotate_left
      · rw [if_neg (by decide), if_neg (by decide)] at eu
        refine eu.cdg rfl rfl rfl rfl rfl rfl (fun FC SF nm X c h w2 W p q hc h6 ty hW ht ng pq x1 x2 x3 x4 x5 x6 x7 => ?_) (i11_hi hv).2
        have k1 := (pj2_eq (kd_X0_add N p2'.2 61 _ p3 e3)).1
        have k2 := kc_X1_expect N p3.2 59 p4 e4
        obtain ⟨-, -, -, -, -, -, -, -, -, -, -, -, -, -, -, -, -, -, -, -, -, -, -, -, o1, -⟩ := pj_eq k1
        obtain ⟨-, -, -, -, -, -, -, -, -, -, -, -, -, -, -, -, -, -, -, -, -, -, -, -, o2, -⟩ := pj_eq k2
        have oe : p2'.2.o a = S.o a := by
          rw [← o1, ← o2]
          exact (ckr.2.2.1 (S.i 56).toInt.toNat a (by omega) ha).1
        rw [oe] at x2
        have eq1 : pcR u - 1 = q := by omega
        rw [eq1] at ht
        exact gi_VRet (pq.hc (hc.up (Nat.le_succ _))) pq.2.1 ⟨h, w2 - 1, rfl, by omega, hc.2.2.2, ty.up (by omega), Or.inr ⟨x1, x3, by rw [x2, x5]; exact ht⟩⟩
      have n1 : ¬ u.i 75 = 1 := fun z => absurd (x1.mp z) (by decide)
      rw [x2.resolve_right n1]
      exact ⟨(ci_at _ _ _).symm, Or.inl (ci_at _ _ _)⟩
  · rw [y4] at e
    have e' : ((f_X1_fail N r.2 5 (r.2.i 44)).bind fun p7 => some ((), p7.2)) = some R := e
    obtain ⟨f, ef, e'⟩ := hf_bind e'
    cases e'
    have ff := y_fail (by decide) ef
    have P0 : P.1 = 0 := by
      rcases p2 with ⟨-, q⟩ | ⟨q, -⟩
      · have := hA.2 (hA.1.mpr q)
        have := hA.1.mpr q
        omega
      · exact q
    rw [if_pos P0, p1] at hV
    unfold f_X12_ending_53 at hV
    rw [e_fail, ob_some, if_pos (show (RS.setA s 66 t (s.i 10)).i 15 = 0 from hv.1.2.1)] at hV
    cases hV
    refine Or.inl ⟨ff, u_flt g2 ?_⟩
    show ¬ (5 : Int32) = 0
    decide
