/-! both readers: the end of a choice -/
theorem close_no {N : Nat} {S : CS} {c : Int32} {R : Unit × CS} (k : ¬ S.i 43 = c) (e : f_X1_close N S c = some R) : ¬ R.2.i 32 = 0 := by
  unfold f_X1_close f_X1_close_22 at e
  rw [e_fnd0 k, ob_some, if_pos rfl] at e
  obtain ⟨p, ep, e⟩ := hf_bind e
  cases e
  exact (show ¬ p.2.i 32 = 0 from y_misp ep)
def st22 (f : Int32) (v : PJT2) : PJT2 := (v.1, (v.2.1.1, v.2.1.2.1, v.2.1.2.2.1, f, v.2.1.2.2.2.2), v.2.2)
theorem pj2_22 (S : CS) (f : Int32) : pj2 (CS.setI S 22 f) = st22 f (pj2 S) := rfl
/-- the class: the cases are laid, and taken away -/
theorem y_adc {N : Nat} {f x2 : Int32} : ∀ (n : Nat) (S : CS) (x3 : Int32) (R : Unit × CS), f_X0_addCases_2 N n S f x2 x3 = some R → pj2 R.2 = pj2 (CS.setI S 22 f)
  | 0, _, _, _, e => by cases e
  | n + 1, S, x3, R, e => by
    have e' : b_X0_addCases_2 N (f_X0_addCases_2 N n) S f x2 x3 = some R := e
    unfold b_X0_addCases_2 at e'
    by_cases c : S.i 22 ≤ x3
    · rw [if_pos c] at e'
      obtain ⟨p, ep, e'⟩ := hf_bind e'
      obtain ⟨q, eq, e'⟩ := hf_bind e'
      cases e'
      exact (kd_X0_add N p.2 30 x2 q eq).trans (kd_X0_add N _ 6 0 p ep)
    · rw [if_neg c] at e'
      obtain ⟨p, ep, e'⟩ := hf_bind e'
      obtain ⟨q, eq, e'⟩ := hf_bind e'
      have h1 := (kd_X0_add N p.2 34 _ q eq).trans (kd_X0_add N S 0 _ p ep)
      have h2 := y_adc n q.2 (x3 + 1) R e'
      rw [h2, pj2_22, pj2_22, h1]
theorem ENV.s22 {d : Int32} {S : CS} {s : RS} {f : Int32} (h : ENV d S s) (h0 : 0 ≤ f.toInt) (h9 : f.toInt ≤ (S.i 22).toInt) : ENV d (CS.setI S 22 f) s := by
  obtain ⟨⟨h1, h2, h3, h4, h5, h6, h7, h8⟩, n, o, c, l, k, ⟨r1, r2, r3, r4, r5, r6, r7, r8, r9, r10, r11⟩⟩ := h
  exact ⟨⟨h1, h2, h3, h4, h5, h6, h7, h8⟩, n, o, c, l, k, ⟨r1, r2, r3, h0, (show 3 * f.toInt ≤ (s.i 11).toInt by omega), r6, r7, r8.mv rfl rfl rfl rfl ⟨rfl, rfl, rfl⟩ r8.2.2.2.2.2.2 (Int.le_refl _), r9, r10, r11⟩⟩
theorem TBC.eq {c : Int} {s0 q w : RS} (h : TBC c s0 q) (hi : ∀ k : Nat, k ≠ 43 → k ≠ 52 → k ≠ 63 → w.i k = q.i k) (ha : ∀ k : Nat, k ≠ 23 → w.a k = q.a k) (hb : w.b = q.b) (h43 : w.i 43 = q.i 43) : TBC c s0 w := by
  unfold TBC TBZ CDK at *
  rw [hi 2 (by decide) (by decide) (by decide), hi 3 (by decide) (by decide) (by decide), hi 8 (by decide) (by decide) (by decide), hi 38 (by decide) (by decide) (by decide), h43, hi 56 (by decide) (by decide) (by decide), ha 1 (by decide), ha 4 (by decide), hb, ha 40 (by decide), ha 41 (by decide), ha 44 (by decide), ha 46 (by decide), ha 47 (by decide), ha 50 (by decide), ha 51 (by decide), ha 48 (by decide), ha 49 (by decide), ha 57 (by decide), ha 58 (by decide), hi 59 (by decide) (by decide) (by decide), ha 60 (by decide), ha 61 (by decide), ha 62 (by decide), hi 29 (by decide) (by decide) (by decide), ha 30 (by decide), hi 33 (by decide) (by decide) (by decide), ha 34 (by decide), ha 37 (by decide), hi 24 (by decide) (by decide) (by decide), ha 25 (by decide), ha 27 (by decide), ha 28 (by decide), hi 20 (by decide) (by decide) (by decide), ha 22 (by decide)]
  exact h
/-- a choice is done, seen from its first arm on -/
def CHE (d : Int32) (t : Nat) (c : Int) (S0 : CS) (s0 : RS) (R : CS) (u : RS) : Prop := ENV d R u ∧ tpI u = (t : Int) - 1 ∧ FRB t s0 u ∧ (u.i 43 = s0.i 43 - 1 ∧ u.i 2 = s0.i 2) ∧ TBC c s0 (RS.setI (RS.setI u 43 (s0.i 43)) 52 (s0.i 52)) ∧ CKX S0 R ∧ (s0.i 11).toInt + 1 ≤ (u.i 11).toInt ∧ phI s0 + 3 ≤ phI u ∧ (s0.i 17).toInt + 1 ≤ (u.i 17).toInt ∧ (u.i 19).toInt = (s0.i 19).toInt - 1
/-! the code of a choice's end -/
theorem add_eq {N : Nat} {S : CS} {o x : Int32} {R : Unit × CS} (e : f_X0_add N S o x = some R) : (∀ k : Nat, k ≠ 20 → R.2.i k = S.i k) ∧ ∀ k : Nat, k ≠ 15 → k ≠ 16 → R.2.a k = S.a k := by
  unfold f_X0_add at e
  cases e
  exact ⟨fun k h => ci_ne _ _ _ h, fun k h1 h2 => (if_neg h2).trans (if_neg h1)⟩
/-- m cases from x3 on, the value goes, then x2 -/
def ADL (S : CS) (x3 : Int) (m : Nat) (x2 f : Int32) (R : CS) : Prop := (R.i 20).toInt = (S.i 20).toInt + 2 * m + 2 ∧ (∀ j : Nat, (j : Int) < (S.i 20).toInt → R.a 15 j = S.a 15 j ∧ R.a 16 j = S.a 16 j) ∧ (∀ i : Nat, i < m → ∀ j : Nat, (j : Int) = (S.i 20).toInt + 2 * i → R.a 15 j = 0 ∧ R.a 16 j = S.a 18 (x3 + i).toNat ∧ R.a 15 (j + 1) = 34 ∧ R.a 16 (j + 1) = S.a 19 (x3 + i).toNat) ∧ (∀ j : Nat, (j : Int) = (S.i 20).toInt + 2 * m → R.a 15 j = 6 ∧ R.a 15 (j + 1) = 30 ∧ R.a 16 (j + 1) = x2) ∧ ((∀ k : Nat, k ≠ 20 → k ≠ 22 → R.i k = S.i k) ∧ (∀ k : Nat, k ≠ 15 → k ≠ 16 → R.a k = S.a k) ∧ R.i 22 = f)
theorem adc_cd {N : Nat} {f x2 : Int32} : ∀ (n : Nat) (S : CS) (x3 : Int32) (R : Unit × CS), f_X0_addCases_2 N n S f x2 x3 = some R → 0 ≤ x3.toInt → x3.toInt ≤ (S.i 22).toInt → (S.i 22).toInt ≤ 320 → 0 ≤ (S.i 20).toInt → (S.i 20).toInt + 2 * ((S.i 22).toInt - x3.toInt) + 2 ≤ 1200 → ADL S x3.toInt ((S.i 22).toInt - x3.toInt).toNat x2 f R.2 := by
  intro n
  induction n with
  | zero =>
    intro S x3 R e
    cases e
  | succ n ih =>
    intro S x3 R e h0 h1 h2 h3 h4
    have e' : b_X0_addCases_2 N (f_X0_addCases_2 N n) S f x2 x3 = some R := e
    unfold b_X0_addCases_2 at e'
    by_cases c : S.i 22 ≤ x3
    · rw [if_pos c] at e'
      have c' := le_int c
      obtain ⟨p, ep, e'⟩ := hf_bind e'
      obtain ⟨q, eq, e'⟩ := hf_bind e'
      cases e'
      have s20 : (CS.setI S 22 f).i 20 = S.i 20 := ci_ne _ _ _ (by decide)
      obtain ⟨p1, p2, ⟨p3, p4⟩, -⟩ := cd_add ep (by rw [s20]; exact h3) (by rw [s20]; omega)
      obtain ⟨pi, pa⟩ := add_eq ep
      rw [s20] at p2
      obtain ⟨q1, q2, ⟨q3, q4⟩, -⟩ := cd_add eq (by omega) (by omega)
      obtain ⟨qi, qa⟩ := add_eq eq
      have m0 : ((S.i 22).toInt - x3.toInt).toNat = 0 := by omega
      rw [m0]
      have pc : ((pcC (CS.setI S 22 f) : Nat) : Int) = (S.i 20).toInt := by
        unfold pcC
        rw [s20]
        exact Int.toNat_of_nonneg h3
      have pc2 : ((pcC p.2 : Nat) : Int) = (S.i 20).toInt + 1 := by
        unfold pcC
        rw [p2]
        exact Int.toNat_of_nonneg (by omega)
      refine ⟨?_, fun j hj => ?_, fun i hi => by omega, fun j hj => ?_, fun k k1 k2 => ?_, fun k k1 k2 => (qa k k1 k2).trans (pa k k1 k2), ?_⟩
      · show (q.2.i 20).toInt = _
        rw [q2, p2]
        omega
      · have x := q1.2.1 j (by omega)
        have y := p1.2.1 j (by rw [s20]; exact hj)
        exact ⟨x.1.trans y.1, x.2.trans y.2⟩
      · have j1 : j = pcC (CS.setI S 22 f) := by omega
        have j2 : j + 1 = pcC p.2 := by omega
        refine ⟨?_, ?_, ?_⟩
        · show q.2.a 15 j = 6
          rw [(q1.2.1 j (by omega)).1, j1]
          exact p3
        · show q.2.a 15 (j + 1) = 30
          rw [j2]
          exact q3
        · show q.2.a 16 (j + 1) = x2
          rw [j2]
          exact q4
      · exact (qi k k1).trans ((pi k k1).trans (ci_ne _ _ _ k2))
      · exact (qi 22 (by decide)).trans ((pi 22 (by decide)).trans (ci_at _ _ _))
    · rw [if_neg c] at e'
      have c' := lt_int (Int32.not_le.mp c)
      obtain ⟨p, ep, e'⟩ := hf_bind e'
      obtain ⟨q, eq, e'⟩ := hf_bind e'
      obtain ⟨p1, p2, ⟨p3, p4⟩, -⟩ := cd_add ep h3 (by omega)
      obtain ⟨pi, pa⟩ := add_eq ep
      obtain ⟨q1, q2, ⟨q3, q4⟩, -⟩ := cd_add eq (by omega) (by omega)
      obtain ⟨qi, qa⟩ := add_eq eq
      have x31 : (x3 + 1).toInt = x3.toInt + 1 := ad1 h0 (by omega)
      have q22 : q.2.i 22 = S.i 22 := (qi 22 (by decide)).trans (pi 22 (by decide))
      obtain ⟨r1, r2, r3, r4, ri, ra, r22⟩ := ih q.2 (x3 + 1) R e' (by omega) (by rw [q22]; omega) (by rw [q22]; exact h2) (by omega) (by rw [q22]; omega)
      obtain ⟨m, hm⟩ : ∃ m, m = ((q.2.i 22).toInt - (x3 + 1).toInt).toNat := ⟨_, rfl⟩
      rw [← hm] at r1 r3 r4
      rw [q22, x31] at hm
      have em : ((S.i 22).toInt - x3.toInt).toNat = m + 1 := by omega
      rw [em]
      have pc : ((pcC S : Nat) : Int) = (S.i 20).toInt := Int.toNat_of_nonneg h3
      have pc2 : ((pcC p.2 : Nat) : Int) = (S.i 20).toInt + 1 := by
        unfold pcC
        rw [p2]
        exact Int.toNat_of_nonneg (by omega)
      have ck := clampI h0
      have i9 : ib x3 320 := ⟨h0, by omega⟩
      have g18 : gAt (S.a 18) 320 x3 = S.a 18 x3.toNatClampNeg := by
        unfold gAt
        exact if_pos i9
      have g19 : gAt (p.2.a 19) 320 x3 = S.a 19 x3.toNatClampNeg := by
        unfold gAt
        rw [pa 19 (by decide) (by decide)]
        exact if_pos i9
      have q18 : q.2.a 18 = S.a 18 := (qa 18 (by decide) (by decide)).trans (pa 18 (by decide) (by decide))
      have q19 : q.2.a 19 = S.a 19 := (qa 19 (by decide) (by decide)).trans (pa 19 (by decide) (by decide))
      refine ⟨?_, fun j hj => ?_, fun i hi j hj => ?_, fun j hj => ?_, fun k k1 k2 => (ri k k1 k2).trans ((qi k k1).trans (pi k k1)), fun k k1 k2 => (ra k k1 k2).trans ((qa k k1 k2).trans (pa k k1 k2)), r22⟩
      · rw [r1, q2, p2]
        omega
      · have x := r2 j (by omega)
        have y := q1.2.1 j (by omega)
        have z := p1.2.1 j hj
        exact ⟨x.1.trans (y.1.trans z.1), x.2.trans (y.2.trans z.2)⟩
      · cases i with
        | zero =>
          have j1 : j = pcC S := by omega
          have j2 : j + 1 = pcC p.2 := by omega
          have x := r2 j (by omega)
          have y := q1.2.1 j (by omega)
          have x' := r2 (j + 1) (by omega)
          have en : (x3.toInt + ((0 : Nat) : Int)).toNat = x3.toNatClampNeg := by omega
          rw [en]
          refine ⟨?_, ?_, ?_, ?_⟩
          · rw [x.1, y.1, j1]
            exact p3
          · rw [x.2, y.2, j1, p4, g18]
          · rw [x'.1, j2]
            exact q3
          · rw [x'.2, j2, q4, g19]
        | succ i =>
          have z := r3 i (by omega) j (by omega)
          have en : (x3.toInt + ((i + 1 : Nat) : Int)).toNat = ((x3 + 1).toInt + (i : Int)).toNat := by omega
          rw [en, ← q18, ← q19]
          exact z
      · exact r4 j (by omega)
theorem chn.chl {u U : RS} : ∀ (L : List Nat) (k : Int32), chn u k L → (∀ j ∈ L, U.a 27 j = u.a 27 j) → CHL U L k
  | [], _, h, _ => h
  | j :: L, k, h, e => ⟨h.1, by rw [e j List.mem_cons_self]; exact chn.chl L _ h.2.2.2 (fun i hi => e i (List.mem_cons_of_mem _ hi))⟩
theorem gs_arms {FC : Nat → Prop} {s0 : CS} {r0 : RS} {nm : Nat → Nat → Prop} {X : Als} {p q h w g d n : Nat} {L : List Nat} {c : List Ent} (pq : PQX s0 r0 p q) (k : HC0 nm h c) (e1 : s0.a 15 p = 30) (hd : (cTg s0 (s0.a 16 p)).toInt = (d : Int)) (dsp : DSP s0 d n) (hh : h + 2 ≤ 600) (ch : CHL r0 L (r0.a 22 q)) (hw : 2 * n + 3 ≤ w) (e2 : r0.a 21 q = 29) (cho : CHO s0 r0 (GU FC s0 r0 nm X) q h w d n L ((5, h, q, 0, 0, 0, 0) :: c)) : GU FC s0 r0 nm X p q (h + 1) w g c := gi_UCho (pq.hc (k.up (Nat.le_succ _))) pq.2.1 ⟨e1, d, n, h, L, hd, dsp, ⟨rfl, hh⟩, ch, hw, Or.inr ⟨e2, cho⟩⟩
/-- the code of a choice from its first arm on -/
def CHC (x1 x2 : Int32) (q0 : Nat) (U : RS) (Sb : CS) (sb : RS) (R : CS) (u : RS) : Prop := CRB Sb → (0 ≤ x1.toInt ∧ x1.toInt < (Sb.i 21).toInt) → (0 ≤ x2.toInt ∧ x2.toInt < (Sb.i 21).toInt) → ¬ x1.toInt = x2.toInt → CD1 1 0 Sb R ∧ (∀ k : Nat, (k : Int) < (Sb.i 21).toInt → ¬ (k : Int) = x1.toInt → ¬ (k : Int) = x2.toInt → R.a 17 k = Sb.a 17 k) ∧ (0 ≤ (cTg R x1).toInt ∧ cTg R x2 = R.i 20) ∧ CD2 (q0 : Int) sb (RS.setI u 52 (sb.i 52)) ∧ (u.a 23 q0 = u.i 20 ∧ u.i 52 = sb.i 52 - 1) ∧ ∃ Ψ : GPS, SAT Ψ Sb sb R u ∧ ∀ (FC : Nat → Prop) (SF : CS) (nm : Nat → Nat → Prop) (X : Als) (c : List Ent) (h w W g0 p0 : Nat), Ψ FC nm → FGC Sb R SF → cTg SF x1 = cTg R x1 → cTg SF x2 = cTg R x2 → FGR sb u U → (U.a 21 q0 = 29 ∧ U.a 22 q0 = u.a 22 q0 ∧ U.a 23 q0 = u.a 23 q0) → NMG nm ((5, h, q0, 0, 0, 0, 0) :: c) Sb sb → HC0 nm h c → ((2 * h + msr c : Nat) : Int) + 2 ≤ (sb.i 11).toInt → TYC SF U (GU FC SF U nm X) W c → W + 1 ≤ w → pcC Sb = p0 + 1 → SF.a 15 p0 = 30 → SF.a 16 p0 = x1 → GU FC SF U nm X (pcC R) (pcR u) (h + 1) w 0 c → GU FC SF U nm X p0 q0 (h + 1) (w + (pcC R - p0)) g0 c
theorem aim_eq {N : Nat} {S : CS} {x : Int32} {R : Unit × CS} (e : f_X0_aim N S x = some R) : (∀ k : Nat, R.2.i k = S.i k) ∧ ∀ k : Nat, k ≠ 17 → R.2.a k = S.a k := by
  unfold f_X0_aim at e
  cases e
  exact ⟨fun k => rfl, fun k h => if_neg h⟩
set_option maxHeartbeats 4000000 in
theorem chc_of {N : Nat} {d : Int32} {t : Nat} {f x1 x2 x4 : Int32} {c0 : Int} {q0 : Nat} {L : List Nat} {Sb S : CS} {sb s U u : RS} {p35 p39 p43 p47 : Unit × CS} {q : Int32 × RS} (hA : AMI d t f x4 c0 L Sb sb S s) (hW : AMW 0 (fun _ _ => False) x2 q0 t U Sb sb f x4 L S s) (o3 : ENV d p35.2 q.2) (o5 : pj p35.2 = pj S) (o7 : (s.i 11).toInt + 1 ≤ (q.2.i 11).toInt) (o18 : A18 S p35.2) (e35 : f_X1_close N S 125 = some p35) (e39 : f_X0_aim N p35.2 x1 = some p39) (e43 : f_X0_addCases N p39.2 f x4 = some p43) (e47 : f_X0_aim N p43.2 x2 = some p47) (hq : f_X12_shut N s 125 = some q) (ui : ∀ k : Nat, k ≠ 43 → k ≠ 52 → k ≠ 63 → u.i k = q.2.i k) (ua : ∀ k : Nat, k ≠ 23 → u.a k = q.2.a k) (u23 : u.a 23 = upd (q.2.a 23) (q.2.a 66 t).toNatClampNeg (q.2.i 20)) (u52 : u.i 52 = q.2.i 52 - 1) (e66 : q.2.a 66 t = s.a 66 t) : CHC x1 x2 q0 U Sb sb p47.2 u := by
  intro cr y1 y2 ny
  have crS := hW.crb cr
  obtain ⟨⟨h01, h02⟩, h9, h1, h2⟩ := id hW
  obtain ⟨c1, c2, c3, Ψ, sat, h2⟩ := h2 cr
  have kpe := ke_X1_close N S 125 p35 e35
  have kqe := kre_f_X12_shut N s 125 q hq
  have hv := hA.1
  obtain ⟨a1, a2, a3, a4, a5, a6⟩ := tok_cd hv o3 o5 kpe kqe o7
  obtain ⟨p20, p15, p16, p17, p23, p38, p22, p19⟩ := pe_eq kpe
  obtain ⟨⟨q20, q24, q29, q33, q42, q52⟩, qa21, qa22, qa23, qa25, qa26, qa27, qa28, qa30, qa31, qa32, qa34, qa35, qa36, qa37⟩ := qe_eq kqe
  obtain ⟨-, ht, h64, hck, htb, hfr, ⟨s1, s2, s3, s4⟩, ⟨b1, b2, b3, b4⟩, ⟨r1, r2⟩, v1, v2, ⟨v3, v4, v5, v6, v7⟩⟩ := hA
  have s44 : (S.i 44).toInt = (s.i 11).toInt := by rw [hv.p44.1]
  have q44 := hv.p44
  have n4 := hv.2.2.2.2.2.2.2.2.2.1
  have n5 := hv.2.2.2.2.2.2.2.2.2.2.1
  have cr21 := crS.2
  have cS1 := c1.1
  have crb1 := cr.1
  have p21 := pj_21 o5
  -- the class
  obtain ⟨x1a, x1b, x1c, -⟩ := cd_aim e39 y1.1 (by have := c1.2.2.1; omega)
  obtain ⟨i39, a39⟩ := aim_eq e39
  obtain ⟨d1, d2, d3, d4, di, da, d22⟩ := adc_cd N p39.2 f p43 (show f_X0_addCases_2 N N p39.2 f x4 f = some p43 from e43) s1.1 (by rw [i39, p22]; exact s1.2.1) (by rw [i39, p22]; omega) (by rw [i39, p20]; exact crS.1.1) (by rw [i39, i39, p20, p22]; omega)
  obtain ⟨x2a, x2b, x2c, -⟩ := cd_aim e47 y2.1 (by have := c1.2.2.1; omega)
  obtain ⟨i47, a47⟩ := aim_eq e47
  obtain ⟨n, hn⟩ : ∃ n, n = ((p39.2.i 22).toInt - f.toInt).toNat := ⟨_, rfl⟩
  rw [← hn] at d1 d3 d4
  rw [i39, p22] at hn
  have hn' : (n : Int) = (S.i 22).toInt - f.toInt := by
    rw [hn]
    exact Int.toNat_of_nonneg (by have := h9.2; omega)
  rw [i39, p20] at d1 d2 d3 d4
  have Ri : ∀ k : Nat, k ≠ 20 → k ≠ 22 → p47.2.i k = p35.2.i k := fun k k1 k2 => (i47 k).trans ((di k k1 k2).trans (i39 k))
  have Ra : ∀ k : Nat, k ≠ 15 → k ≠ 16 → k ≠ 17 → p47.2.a k = p35.2.a k := fun k k1 k2 k3 => (a47 k k3).trans ((da k k1 k2).trans (a39 k k3))
  have R20 : (p47.2.i 20).toInt = (S.i 20).toInt + 2 * n + 2 := by rw [i47]; exact d1
  have R15 : p47.2.a 15 = p43.2.a 15 := a47 15 (by decide)
  have R16 : p47.2.a 16 = p43.2.a 16 := a47 16 (by decide)
  have Rc : ∀ j : Nat, (j : Int) < (S.i 20).toInt → p47.2.a 15 j = S.a 15 j ∧ p47.2.a 16 j = S.a 16 j := fun j hj => by
    rw [R15, R16, (d2 j hj).1, (d2 j hj).2, a39 15 (by decide), a39 16 (by decide), p15, p16]
    exact ⟨rfl, rfl⟩
  have R17 : ∀ k : Nat, ¬ (k : Int) = x1.toInt → ¬ (k : Int) = x2.toInt → p47.2.a 17 k = S.a 17 k := fun k k1 k2 => by
    rw [x2b k k2, da 17 (by decide) (by decide), x1b k k1, p17]
  have ck1 := clampI y1.1
  have i91 : ib x1 1024 := ⟨y1.1, by have := c1.2.2.1; omega⟩
  have Rx1 : cTg p47.2 x1 = S.i 20 := by
    have z := x1c
    unfold cTg gAt at z ⊢
    rw [if_pos i91] at z ⊢
    rw [x2b _ (by omega), da 17 (by decide) (by decide), z, p20]
  have Rx2 : cTg p47.2 x2 = p47.2.i 20 := by rw [x2c, i47]
  have pb : ((pcC Sb : Nat) : Int) = (Sb.i 20).toInt := Int.toNat_of_nonneg cr.1.1
  have pS : ((pcC S : Nat) : Int) = (S.i 20).toInt := Int.toNat_of_nonneg crS.1.1
  have pR : ((pcC p47.2 : Nat) : Int) = (p47.2.i 20).toInt := Int.toNat_of_nonneg (by omega)
  have p20s := hv.p20
  have ckq : (s.a 66 t).toNatClampNeg = q0 := by
    have := clampI (k := s.a 66 t) (by omega)
    omega
  have ckq2 : (q.2.a 66 t).toNatClampNeg = q0 := by rw [e66]; exact ckq
  rw [ckq2] at u23
  have c320 := c3.1.1
  have u20 : u.i 20 = s.i 20 := (ui 20 (by decide) (by decide) (by decide)).trans q20
  have u24 : u.i 24 = s.i 24 := (ui 24 (by decide) (by decide) (by decide)).trans q24
  have u29 : u.i 29 = s.i 29 := (ui 29 (by decide) (by decide) (by decide)).trans q29
  have u33 : u.i 33 = s.i 33 := (ui 33 (by decide) (by decide) (by decide)).trans q33
  have u42 : u.i 42 = s.i 42 := (ui 42 (by decide) (by decide) (by decide)).trans q42
  have u21 : u.a 21 = s.a 21 := (ua 21 (by decide)).trans qa21
  have u22 : u.a 22 = s.a 22 := (ua 22 (by decide)).trans qa22
  have w23 : ∀ j : Nat, ¬ j = q0 → u.a 23 j = s.a 23 j := fun j hj => by
    rw [u23]
    exact (if_neg hj).trans (by rw [qa23])
  have w25 : u.a 25 = s.a 25 := (ua 25 (by decide)).trans qa25
  have w26 : u.a 26 = s.a 26 := (ua 26 (by decide)).trans qa26
  have w27 : u.a 27 = s.a 27 := (ua 27 (by decide)).trans qa27
  have w28 : u.a 28 = s.a 28 := (ua 28 (by decide)).trans qa28
  have w30 : u.a 30 = s.a 30 := (ua 30 (by decide)).trans qa30
  have w31 : u.a 31 = s.a 31 := (ua 31 (by decide)).trans qa31
  have w32 : u.a 32 = s.a 32 := (ua 32 (by decide)).trans qa32
  have w34 : u.a 34 = s.a 34 := (ua 34 (by decide)).trans qa34
  have w35 : u.a 35 = s.a 35 := (ua 35 (by decide)).trans qa35
  have w36 : u.a 36 = s.a 36 := (ua 36 (by decide)).trans qa36
  have w37 : u.a 37 = s.a 37 := (ua 37 (by decide)).trans qa37
  have u23q : u.a 23 q0 = u.i 20 := by
    rw [u23, ui 20 (by decide) (by decide) (by decide)]
    exact if_pos rfl
  obtain ⟨⟨g1, g2, g3⟩, g4, g5, g6, g7, ⟨g8, g9⟩, g10, g11, g12⟩ := c1.tr a1
  refine ⟨⟨⟨by omega, ?_, ?_⟩, fun j hj => ?_, ?_, ?_, fun k hk => ?_, ⟨?_, ?_⟩, ?_, ?_, fun k hk => ?_⟩, fun k k1 k2 k3 => (R17 k k2 k3).trans (c2 k (by omega) k1), ⟨by rw [Rx1]; exact crS.1.1, Rx2⟩, ?_, ⟨u23q, ?_⟩, Ψ, sat.wd (MNO.of (CD1.rf Sb) (CD2.rf 0 sb)) ⟨?_, SLC.eq u42 (by rw [u20]; exact Int.le_refl _), by rw [u29]; exact Int.le_refl _⟩, ?_⟩
  · rw [R20, Ri 44 (by decide) (by decide)]
    rw [p20] at g2
    omega
  · rw [Ri 21 (by decide) (by decide), Ri 44 (by decide) (by decide)]
    omega
  · have y := Rc j (by omega)
    have z := c1.2.1 j hj
    exact ⟨y.1.trans z.1, y.2.trans z.2⟩
  · rw [Ri 21 (by decide) (by decide)]
    exact g5
  · rw [Ri 50 (by decide) (by decide)]
    exact g6
  · rw [Ra 48 (by decide) (by decide) (by decide), Ra 49 (by decide) (by decide) (by decide)]
    exact g7 k hk
  · rw [Ri 23 (by decide) (by decide)]
    exact g8
  · rw [Ri 23 (by decide) (by decide), Ri 44 (by decide) (by decide)]
    omega
  · rw [Ri 38 (by decide) (by decide)]
    exact g10
  · rw [i47, d22, v1]
    exact Int.le_refl _
  · rw [Ra 19 (by decide) (by decide) (by decide)]
    exact g12 k hk
  · obtain ⟨⟨z1, z2, z3, z4, z5, z6⟩, z7, z8, z9, z10⟩ := c3
    refine ⟨⟨?_, ?_, ?_, ?_, ?_, rfl⟩, fun j hj => ?_, fun j hj => ?_, fun j hj => ?_, fun j hj => ?_⟩
    · show (sb.i 20).toInt ≤ (u.i 20).toInt
      rw [u20]
      exact z1
    · show (sb.i 24).toInt ≤ (u.i 24).toInt
      rw [u24]
      exact z2
    · show (sb.i 29).toInt ≤ (u.i 29).toInt
      rw [u29]
      exact z3
    · show (sb.i 33).toInt ≤ (u.i 33).toInt
      rw [u33]
      exact z4
    · exact (show SLC sb u from SLC.tr z5 (SLC.eq u42 (by rw [u20]; exact Int.le_refl _)))
    · show u.a 21 j = sb.a 21 j ∧ u.a 22 j = sb.a 22 j ∧ u.a 23 j = sb.a 23 j
      rw [u21, u22, w23 j (by omega)]
      exact z7 j hj
    · show u.a 25 j = sb.a 25 j ∧ u.a 26 j = sb.a 26 j ∧ u.a 27 j = sb.a 27 j ∧ u.a 28 j = sb.a 28 j
      rw [w25, w26, w27, w28]
      exact z8 j hj
    · show u.a 30 j = sb.a 30 j ∧ u.a 31 j = sb.a 31 j ∧ u.a 32 j = sb.a 32 j
      rw [w30, w31, w32]
      exact z9 j hj
    · show u.a 34 j = sb.a 34 j ∧ u.a 35 j = sb.a 35 j ∧ u.a 36 j = sb.a 36 j ∧ u.a 37 j = sb.a 37 j
      rw [w34, w35, w36, w37]
      exact z10 j hj
  · rw [u52, q52, c3.1.2.2.2.2.2]
  · rw [Ri 23 (by decide) (by decide), p23]
    exact Int.le_refl _
  intro FC SF nm X c h w W g0 p0 ps fc fx1 fx2 fr f3 ng hc hh ty hW' e0 e15 e16 z
  have R21 : p47.2.i 21 = S.i 21 := (Ri 21 (by decide) (by decide)).trans p21
  have fcS : FGC Sb S SF := by
    obtain ⟨⟨f1, f2⟩, f4, f5⟩ := fc
    refine ⟨⟨f1, by omega⟩, fun j j1 j2 => ?_, fun k k1 k2 k3 => ?_⟩
    · have y := f4 j j1 (by omega)
      have y' := Rc j j2
      exact ⟨y.1.trans y'.1, y.2.trans y'.2⟩
    · have y' := R17 k (by omega) (by omega)
      exact (f5 k k1 (by rw [R21]; exact k2) (k3.elim (fun q => Or.inl (by rw [y']; exact q)) (fun q => Or.inr (by rw [R21]; exact q)))).trans y'
  have frS : FGX L sb s U := (fr.x L).pre (by rw [u20]; exact Int.le_refl _) (fun j j1 j2 => ⟨by rw [u21], by rw [u22], w23 j (by omega)⟩) (by rw [u24]; exact Int.le_refl _) (fun j j1 j2 => ⟨by rw [w25], by rw [w26], fun y => ⟨by rw [w27], y⟩, by rw [w28]⟩) (by rw [u29]; exact Int.le_refl _) (fun j _ => ⟨by rw [w30], by rw [w31], by rw [w32]⟩) (by rw [u33]; exact Int.le_refl _) (fun j _ => ⟨by rw [w34], by rw [w35], by rw [w36], by rw [w37]⟩)
  have exg : EXG FC SF U nm X x2 q0 h w c := by
    refine ⟨pcC p47.2, pcR u, ?_, ?_, z, y2.1, by have := c1.2.2.1; have := cr21.2.1; have := q44.2; omega⟩
    · rw [fx2, Rx2]
      exact pR.symm
    · rw [f3.2.2, u23q]
      exact (Int.toNat_of_nonneg (by rw [u20]; exact p20s.1)).symm
  have am := h2 FC SF nm X c h w W w ps fcS frS ng hc hh ty hW' (Nat.le_refl _) exg
  have jl := chn.lt L _ s2
  have sb44 := hv.p44
  have frU := fr.1
  have eL : ∀ k ∈ L, U.a 25 k = s.a 25 k ∧ U.a 26 k = s.a 26 k ∧ U.a 27 k = s.a 27 k ∧ U.a 28 k = s.a 28 k := fun k hk => by
    have y := fr.2.2.1 k (s4 k hk) (by rw [u24]; exact jl k hk)
    rw [w25, w26, w27, w28] at y
    exact y
  have dsp : DSP SF (pcC S) n := by
    refine ⟨by omega, fun i hi => ?_, ?_, ?_⟩
    · have y := d3 i hi (pcC S + 2 * i) (by omega)
      have f1 := fc.2.1 (pcC S + 2 * i) (by omega) (by omega)
      have f2 := fc.2.1 (pcC S + 2 * i + 1) (by omega) (by omega)
      rw [f1.1, f2.1, R15]
      exact ⟨y.1, y.2.2.1⟩
    · have y := d4 (pcC S + 2 * n) (by omega)
      rw [(fc.2.1 (pcC S + 2 * n) (by omega) (by omega)).1, R15]
      exact y.1
    · have y := d4 (pcC S + 2 * n) (by omega)
      rw [(fc.2.1 (pcC S + 2 * n + 1) (by omega) (by omega)).1, R15]
      exact y.2.1
  have g18 : p39.2.a 18 = S.a 18 := (a39 18 (by decide)).trans o18.1
  have g19 : p39.2.a 19 = S.a 19 := (a39 19 (by decide)).trans p19
  have vl : ∀ i : Nat, i < n → SF.a 16 (pcC S + 2 * i) = S.a 18 (f.toInt + i).toNat ∧ SF.a 16 (pcC S + 2 * i + 1) = S.a 19 (f.toInt + i).toNat := fun i hi => by
    have y := d3 i hi (pcC S + 2 * i) (by omega)
    rw [(fc.2.1 (pcC S + 2 * i) (by omega) (by omega)).2, (fc.2.1 (pcC S + 2 * i + 1) (by omega) (by omega)).2, R16, y.2.1, y.2.2.2, g18, g19]
    exact ⟨rfl, rfl⟩
  have f0 := s1.1
  have u20i : (u.i 20).toInt = (s.i 20).toInt := by rw [u20]
  refine gs_arms (d := pcC S) (n := n) (L := L) ⟨by omega, by omega, frU.2.2⟩ hc e15 ?_ dsp (by omega) ?_ (by omega) f3.1 ⟨fun i hi => ?_, fun k hk k0 => ?_, fun k hk k0 i hi hv' => ?_, fun k hk k0 => ?_⟩
  · rw [e16, fx1, Rx1]
    exact pS.symm
  · rw [f3.2.1, u22]
    rw [ckq] at s2
    exact chn.chl L _ s2 (fun j hj => (eL j hj).2.2.1)
  · obtain ⟨j, j1, j2, j3⟩ := (s1.2.2 (S.a 18 (f.toInt + i).toNat)).mp ⟨(f.toInt + i).toNat, by omega, by omega, rfl⟩
    exact ⟨j, j1, by rw [(eL j j1).2.2.2]; exact j2, by rw [(eL j j1).1, (vl i hi).1]; exact j3⟩
  · rw [(eL k hk).2.2.2] at k0
    obtain ⟨i, i1, i2, i3⟩ := (s1.2.2 (s.a 25 k)).mpr ⟨k, hk, k0, rfl⟩
    refine ⟨((i : Int) - f.toInt).toNat, by omega, ?_⟩
    rw [(vl _ (by omega)).1, (eL k hk).1, ← i3]
    have : (f.toInt + ((((i : Int) - f.toInt).toNat : Nat) : Int)).toNat = i := by omega
    rw [this]
  · rw [(eL k hk).2.2.2] at k0
    rw [(vl i hi).1, (eL k hk).1] at hv'
    rcases am.1 k hk k0 (f.toInt + i).toNat (by omega) (by omega) hv' with ⟨p', q', w', z1, z2, z3⟩ | z
    · rw [(vl i hi).2, (eL k hk).2.1]
      exact ⟨p', q', w', z1, by omega, z3⟩
    · exact z.elim
  · rw [(eL k hk).2.2.2] at k0
    have y := d4 (pcC S + 2 * n) (by omega)
    have y16 : SF.a 16 (pcC S + 2 * n + 1) = x4 := by
      rw [(fc.2.1 (pcC S + 2 * n + 1) (by omega) (by omega)).2, R16]
      exact y.2.2
    rcases am.2 k hk k0 with ⟨p', q', w', z1, z2, z3⟩ | z
    · rw [y16, (eL k hk).2.1]
      exact ⟨p', q', w', z1, by omega, z3⟩
    · exact z.elim
set_option maxHeartbeats 4000000 in
theorem y_cend {N : Nat} (hN : 1000 ≤ N) {E1 : CS → Option (Unit × CS)} {E2 : CS → Option (Int32 × CS)} (hm1 : ∀ σ, Kf (CS.i σ 32) (E1 σ)) (hm2 : ∀ σ, Kf (CS.i σ 32) (E2 σ)) {d : Int32} {t n : Nat} {f x1 x2 x4 : Int32} {c : Int} {L : List Nat} {S0 S : CS} {s0 s U : RS} {R : Unit × CS} {q0 : Nat} (hA : AMI d t f x4 c L S0 s0 S s) (hW : AMW 0 (fun _ _ => False) x2 q0 t U S0 s0 f x4 L S s) (hG : GA0 S0 s0) (hs : s.a 65 t = 2) (n19 : ¬ S.i 43 = 219) (n20 : ¬ S.i 43 = 220) (e : f_X1_choice_113 N E1 E2 S x1 x2 f x4 = some R) (g : f_X12_parse_10 N n s = some U) : (¬ R.2.i 32 = 0 ∧ ¬ U.i 15 = 0) ∨ ∃ (m : Nat) (u : RS), f_X12_parse_10 N m u = some U ∧ CHE d t c S0 s0 R.2 u ∧ CHC x1 x2 q0 U S0 s0 R.2 u := by
  have hA0 := hA
  have hsg := hA.sgr hG
  obtain ⟨hv, ht, h64, hck, htb, hfr, ⟨c1, c2, c3, c4⟩, ⟨p1, p2, p3, p4⟩, ⟨r1, r2⟩, v1, v2, ⟨v3, v4, v5, v6, v7⟩⟩ := hA
  have h15 := hv.1.2.1
  obtain ⟨m, V, hV, g2⟩ := rl_19 g ht h15 h64
  have i219 := tk_is hv (a := 219) (b := 429) (Or.inr ⟨by decide, by decide⟩) (by decide)
  have i220 := tk_is hv (a := 220) (b := 430) (Or.inr ⟨by decide, by decide⟩) (by decide)
  have i125 := tk_is hv (a := 125) (b := 125) (Or.inl ⟨by decide, by decide⟩) (by decide)
  unfold f_X12_arms at hV
  obtain ⟨hib, hV⟩ := hf_ite hV
  rw [tp_nat ht, if_neg (show ¬ s.a 65 t = 0 by rw [hs]; decide), if_neg (show ¬ s.a 65 t = 1 by rw [hs]; decide), if_pos hs, if_neg (fun z => n19 (i219.mpr z)), if_neg (fun z => n20 (i220.mpr z))] at hV
  have t9 : t < 1000 := by
    have h2 : (s.i 63).toInt = (t : Int) := ht
    have := hib.2
    omega
  have mis : ∀ p : Unit × CS, f_X1_misplaced N S = some p → f_X1_choice_122 N E1 E2 p.2 x1 x2 f x4 = some R → ¬ R.2.i 32 = 0 := fun p ep e => by
    have := y_misp ep
    rw [kF_X1_choice_122 N E1 E2 hm1 hm2 p.2 x1 x2 f x4 R e this]
    exact this
  unfold f_X1_choice_113 at e
  by_cases k : S.i 43 = 125
  · have kr := i125.mp k
    rw [if_pos kr] at hV
    by_cases c4' : (0 : Int32) ≤ x4
    · rw [if_pos c4'] at e
      have x0 : 0 ≤ x4.toInt := by
        have := le_int c4'
        rw [z_t0] at this
        exact this
      rw [if_pos (r2.mpr x0), y_can1 h15 (by rw [kr]; decide), ob_some, if_neg n10] at hV
      unfold f_X1_choice_122 at e
      unfold f_X12_arms_250 at hV
      rw [tp_nat ht] at hV
      obtain ⟨p35, e35, e⟩ := hf_bind e
      obtain ⟨p39, e39, e⟩ := hf_bind e
      obtain ⟨p43, e43, e⟩ := hf_bind e
      obtain ⟨p47, e47, e⟩ := hf_bind e
      cases e
      obtain ⟨q, hq, hV⟩ := hf_bind hV
      obtain ⟨-, hV⟩ := hf_ite hV
      obtain ⟨-, hV⟩ := hf_ite hV
      cases hV
      rcases y_close hN hv hsg (c := 125) (d := 125) (Or.inl ⟨by decide, by decide⟩) (by decide) (by decide) (by decide) e35 hq with ⟨o1, o2, o3⟩ | ⟨o1, o2, o3, o4, o5, o6, o7, o8, o9, o10, o11, o12⟩
      · refine Or.inl ⟨?_, u_flt g2 (show ¬ q.2.i 15 = 0 from o3)⟩
        have z1 : ¬ p39.2.i 32 = 0 := by rw [kF_X0_aim N p35.2 x1 p39 e39 o2]; exact o2
        have z2 : ¬ p43.2.i 32 = 0 := by rw [kF_X0_addCases N p39.2 f x4 p43 e43 z1]; exact z1
        show ¬ p47.2.i 32 = 0
        rw [kF_X0_aim N p43.2 x2 p47 e47 z2]
        exact z2
      · have k39 := kd_X0_aim N p35.2 x1 p39 e39
        have k43 : pj2 p43.2 = pj2 (CS.setI p39.2 22 f) := y_adc N p39.2 f p43 e43
        have k47 := (kd_X0_aim N p43.2 x2 p47 e47).trans k43
        have q39 := pj2_eq k39
        have q47 := pj2_eq k47
        have ck39 : CKN S0 p39.2 := (hck.exp (CKX.of o5 o10 o11)).exp (CKX.of q39.1 q39.2.2.2.2.1 q39.2.2.2.2.2.2.2.2.2.2.2)
        have ckr : CKX S0 p47.2 := by
          have z := ck39.1
          rw [← v1] at z
          exact z.tr (CKX.of q47.1 q47.2.2.2.2.1 q47.2.2.2.2.2.2.2.2.2.2.2)
        have f22 : f.toInt ≤ (p39.2.i 22).toInt := by
          rw [q39.2.2.2.2.1, o10]
          exact c1.2.1
        have env : ENV d p47.2 q.2 := ((o3.kd k39).s22 c1.1 f22).kd k47
        have tq : tpI q.2 = t := qj_63 o4 ht
        have t17 : (q.2.i 17).toInt = (s.i 17).toInt + 1 := by rw [o6]; exact t17_up (N := N) hv
        have pq : phI q.2 = phI s + 3 := by
          unfold phI
          rw [o8, t17]
          omega
        have tbq : TBC c s0 q.2 := ⟨htb.1.tr (TBZ.of o4), by rw [o8]; exact htb.2.1, fun j hj => by rw [o9]; exact htb.2.2 j hj⟩
        have frq : FRB t s0 q.2 := hfr.tr (FRB.of o4)
        obtain ⟨u, hu⟩ : ∃ y, y = RS.setI (RS.setA (RS.setI (RS.setI q.2 43 ((q.2.i 43) - 1)) 52 ((q.2.i 52) - 1)) 23 (((q.2.a 66 t) : Int32).toNatClampNeg) (q.2.i 20)) 63 ((q.2.i 63) - 1) := ⟨_, rfl⟩
        rw [← hu] at g2
        have ui : ∀ k : Nat, k ≠ 43 → k ≠ 52 → k ≠ 63 → u.i k = q.2.i k := by
          rw [hu]
          exact fun k h1 h2 h3 => (if_neg h3).trans ((if_neg h2).trans (if_neg h1))
        have ua : ∀ k : Nat, k ≠ 23 → u.a k = q.2.a k := by
          rw [hu]
          exact fun k h => if_neg h
        have ub : u.b = q.2.b ∧ u.l = q.2.l := by
          rw [hu]
          exact ⟨rfl, rfl⟩
        have u43 : u.i 43 = q.2.i 43 - 1 := by
          rw [hu]
          rfl
        have u52 : u.i 52 = q.2.i 52 - 1 := by
          rw [hu]
          rfl
        have u63 : u.i 63 = q.2.i 63 - 1 := by
          rw [hu]
          rfl
        have u23 : u.a 23 = upd (q.2.a 23) (q.2.a 66 t).toNatClampNeg (q.2.i 20) := by
          rw [hu]
          rfl
        clear hu
        have pu : phI u = phI q.2 := by
          unfold phI
          rw [ui 17 (by decide) (by decide) (by decide), ui 20 (by decide) (by decide) (by decide)]
        have q43 : q.2.i 43 = s0.i 43 := tbq.1.1.2.2.2.2.1
        have q56 : q.2.i 56 = s0.i 56 := tbq.1.1.2.2.2.2.2.2.1
        have w43 : (u.i 43).toInt = (s0.i 43).toInt - 1 := by
          have e1 : (1 : Int32).toInt = 1 := by decide
          have z := hG.2.2.2.1.1
          have z2 := Int32.toInt_lt (s0.i 43)
          rw [u43, q43, toInt_sub] <;> rw [e1] <;> omega
        have hwu : WPI u := by
          obtain ⟨⟨x1, x2, x3, x5⟩, x4⟩ := env.wp
          have z := hG.2.2.2.1.1
          have w56 : u.i 56 = s0.i 56 := (ui 56 (by decide) (by decide) (by decide)).trans q56
          refine ⟨⟨by omega, by rw [ui 56 (by decide) (by decide) (by decide)]; exact x2, fun y => ?_, by rw [ui 29 (by decide) (by decide) (by decide)]; exact x5⟩, fun j hj => ?_⟩
          · rw [w56] at y ⊢
            rw [ua 58 (by decide), (tbq.1.2.2.2.1 _ (by omega)).2, w43]
            exact hG.2.2.2.2.1 y
          · rw [ui 59 (by decide) (by decide) (by decide)] at hj
            rw [ua 62 (by decide), ui 29 (by decide) (by decide) (by decide)]
            exact x4 j hj
        have env2 : ENV d p47.2 u := env.kq (ui 38 (by decide) (by decide) (by decide)) (ui 2 (by decide) (by decide) (by decide)) (ui 3 (by decide) (by decide) (by decide)) (ui 18 (by decide) (by decide) (by decide)) (ui 53 (by decide) (by decide) (by decide)) (ui 54 (by decide) (by decide) (by decide)) (ui 55 (by decide) (by decide) (by decide)) (ua 1 (by decide)) (ua 4 (by decide)) (ua 41 (by decide)) (by rw [ub.1]) (by rw [ub.1]) (ui 10 (by decide) (by decide) (by decide)) (ui 11 (by decide) (by decide) (by decide)) (ui 12 (by decide) (by decide) (by decide)) (ui 14 (by decide) (by decide) (by decide)) (ui 15 (by decide) (by decide) (by decide)) (ui 17 (by decide) (by decide) (by decide)) (ui 19 (by decide) (by decide) (by decide)) ub.2 ⟨by rw [ui 20 (by decide) (by decide) (by decide)]; exact env.2.2.2.2.2.2.1, by rw [pu]; exact env.2.2.2.2.2.2.2.1⟩ hwu
        have q52 : q.2.i 2 = s0.i 2 := tbq.1.1.2.2.2.2.2.1
        have w11 : u.i 11 = q.2.i 11 := ui 11 (by decide) (by decide) (by decide)
        have w17 : u.i 17 = q.2.i 17 := ui 17 (by decide) (by decide) (by decide)
        have w19 : u.i 19 = q.2.i 19 := ui 19 (by decide) (by decide) (by decide)
        have e66q : q.2.a 66 t = s.a 66 t := ((FRB.of o4 : FRB (t + 1) s q.2) t (by omega)).2.2.1
        refine Or.inr ⟨m, u, g2, ⟨env2, ?_, ?_, ⟨by rw [u43, q43], (ui 2 (by decide) (by decide) (by decide)).trans q52⟩, ?_, ckr, by rw [w11]; omega, by omega, by rw [w17]; omega, by rw [w19, o12, v2]⟩, chc_of hA0 hW o3 o5 o7 o11 e35 e39 e43 e47 hq ui ua u23 u52 e66q⟩
        · show (u.i 63).toInt = (t : Int) - 1
          rw [u63]
          exact tp_sub tq t9
        · exact frq.tr (fun j _ => ⟨by rw [ua 64 (by decide)], by rw [ua 65 (by decide)], by rw [ua 66 (by decide)], by rw [ua 67 (by decide)], by rw [ua 68 (by decide)], by rw [ua 69 (by decide)], by rw [ua 70 (by decide)], by rw [ua 71 (by decide)], by rw [ua 72 (by decide)], by rw [ua 73 (by decide)], by rw [ub.1]⟩)
        · exact tbq.eq (fun k h1 h2 h3 => (if_neg h2).trans ((if_neg h1).trans (ui k h1 h2 h3))) (fun k h => ua k h) ub.1 (show s0.i 43 = q.2.i 43 from q43.symm)
    · rw [if_neg c4'] at e
      obtain ⟨p, ep, e⟩ := hf_bind e
      have x0 : ¬ 0 ≤ x4.toInt := fun z => c4' (by rw [Int32.le_iff_toInt_le, z_t0]; exact z)
      rw [if_neg (fun z => x0 (r2.mp z))] at hV
      obtain ⟨q, hq, hV⟩ := hf_bind hV
      obtain ⟨q1, q2⟩ := y_can0 hq
      rw [if_pos q1] at hV
      cases hV
      exact Or.inl ⟨mis p ep e, u_flt g2 q2⟩
  · rw [if_neg (fun z => k (i125.mpr z))] at hV
    obtain ⟨q, hq, hV⟩ := hf_bind hV
    obtain ⟨q1, q2⟩ := y_can0 hq
    rw [if_pos q1] at hV
    cases hV
    refine Or.inl ⟨?_, u_flt g2 q2⟩
    by_cases c4' : (0 : Int32) ≤ x4
    · rw [if_pos c4'] at e
      unfold f_X1_choice_122 at e
      obtain ⟨p35, e35, e⟩ := hf_bind e
      obtain ⟨p39, e39, e⟩ := hf_bind e
      obtain ⟨p43, e43, e⟩ := hf_bind e
      obtain ⟨p47, e47, e⟩ := hf_bind e
      cases e
      have o2 := close_no k e35
      have z1 : ¬ p39.2.i 32 = 0 := by rw [kF_X0_aim N p35.2 x1 p39 e39 o2]; exact o2
      have z2 : ¬ p43.2.i 32 = 0 := by rw [kF_X0_addCases N p39.2 f x4 p43 e43 z1]; exact z1
      show ¬ p47.2.i 32 = 0
      rw [kF_X0_aim N p43.2 x2 p47 e47 z2]
      exact z2
    · rw [if_neg c4'] at e
      obtain ⟨p, ep, e⟩ := hf_bind e
      exact mis p ep e
/-- the arms one by one, then the end -/
theorem y_cloop {N : Nat} (hN : 1000 ≤ N) {E1 : CS → Option (Unit × CS)} {E2 : CS → Option (Int32 × CS)} (hm1 : ∀ σ, Kf (CS.i σ 32) (E1 σ)) (hm2 : ∀ σ, Kf (CS.i σ 32) (E2 σ)) (hE : SXR N 18 E1) (hB : ABK N (f_X7_armBlock N E1 E2)) {d : Int32} {t : Nat} {f x1 x2 : Int32} {c : Int} {q0 : Nat} {S0 : CS} {s0 U : RS} (hG : GA0 S0 s0) : ∀ (n1 n : Nat) (L : List Nat) (S : CS) (s : RS) (x4 x5 : Int32) (R : Unit × CS), AMI d t f x4 c L S0 s0 S s → AMW 0 (fun _ _ => False) x2 q0 t U S0 s0 f x4 L S s → KD8 f S s → s.a 65 t = 2 → 0 ≤ x5.toInt → x5.toInt ≤ (s.i 11).toInt → f_X1_choice_69 N E1 E2 n1 S x1 x2 f x4 x5 = some R → f_X12_parse_10 N n s = some U → (¬ R.2.i 32 = 0 ∧ ¬ U.i 15 = 0) ∨ ∃ (m : Nat) (u : RS), f_X12_parse_10 N m u = some U ∧ CHE d t c S0 s0 R.2 u ∧ CHC x1 x2 q0 U S0 s0 R.2 u
  | 0, _, _, _, _, _, _, _, _, _, _, _, _, _, e, _ => by cases e
  | n1 + 1, n, L, S, s, x4, x5, R, hA, hW, hk, hs, x0, x9, e, g => by
    have e' : b_X1_choice_69 N E1 E2 (f_X1_choice_69 N E1 E2 n1) S x1 x2 f x4 x5 = some R := e
    unfold b_X1_choice_69 at e'
    have step : ∀ p : Int32 × CS, (S.i 43 = 219 ∨ S.i 43 = 220) → f_X1_arm N E1 E2 S f x4 x2 = some p → f_X1_choice_69 N E1 E2 n1 p.2 x1 x2 f p.1 (x5 + 1) = some R → (¬ R.2.i 32 = 0 ∧ ¬ U.i 15 = 0) ∨ ∃ (m : Nat) (u : RS), f_X12_parse_10 N m u = some U ∧ CHE d t c S0 s0 R.2 u ∧ CHC x1 x2 q0 U S0 s0 R.2 u := fun p hc ep e => by
      rcases y_arm hN hm1 hm2 hE hB hG hA hW hk hs hc ep g with ⟨z1, z2⟩ | ⟨m, u, g2, ⟨L2, w1, w1'⟩, w2, w3, w4, w5, w6⟩
      · refine Or.inl ⟨?_, z2⟩
        rw [kF_X1_choice_69 N E1 E2 hm1 hm2 n1 p.2 x1 x2 f p.1 (x5 + 1) R e z1]
        exact z1
      · have hi := i11_hi hA.1
        have xx : (x5 + 1).toInt = x5.toInt + 1 := ad1 x0 (by omega)
        have k8 : KD8 f p.2 u := by
          unfold KDB at w2
          unfold KD8
          omega
        exact y_cloop hN hm1 hm2 hE hB hG n1 m L2 p.2 u p.1 (x5 + 1) R w1 w1' k8 w3 (by omega) (by omega) e g2
    by_cases c9 : (900 : Int32) ≤ x5
    · rw [if_pos c9] at e'
      have z := no_900 hA.1 x9 c9
      exact y_cend hN hm1 hm2 hA hW hG hs (by rw [z]; decide) (by rw [z]; decide) e' g
    · rw [if_neg c9] at e'
      by_cases k1 : S.i 43 = 219
      · rw [e_fnd1 k1, ob_some, if_neg n10] at e'
        obtain ⟨p, ep, e'⟩ := hf_bind e'
        exact step p (Or.inl k1) ep e'
      · rw [e_fnd0 k1, ob_some, if_pos rfl] at e'
        by_cases k2 : S.i 43 = 220
        · rw [e_fnd1 k2, ob_some, if_neg n10] at e'
          obtain ⟨p, ep, e'⟩ := hf_bind e'
          exact step p (Or.inr k2) ep e'
        · rw [e_fnd0 k2, ob_some, if_pos rfl] at e'
          exact y_cend hN hm1 hm2 hA hW hG hs k1 k2 e' g
