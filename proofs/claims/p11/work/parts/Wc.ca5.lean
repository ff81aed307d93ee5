/-! both readers: a number of a switch, behind its minus -/
theorem y_cn2 {N : Nat} (hN : 1000 ≤ N) {d : Int32} {S : CS} {s : RS} {R : Unit × CS} {Q : Int32 × RS} {t : Nat} {x f tgt v : Int32} {L : List Nat} (h : ENV d S s) (hx : x.toNatClampNeg = t) (hc : CSE S s f L) (hl : chn s (s.a 22 (s.a 66 t).toNatClampNeg) L) (hq : FQL s t L) (h3 : (S.i 22).toInt < 320) (c1 : S.i 43 = 1) (e : f_X1_caseNumber_44 N S f tgt v = some R) (g : f_X12_caseNumber_62 N s x v = some Q) : (Q.1 = 0 ∧ ¬ R.2.i 32 = 0 ∧ ¬ Q.2.i 15 = 0) ∨ (Q.1 = 1 ∧ CNR9 d t f L v S s R.2 Q.2 ∧ CNC tgt S s R.2 Q.2) := by
  have h15 := h.1.2.1
  have r4 := h.2.2.2.2.2.2.2.2.2.1
  unfold f_X1_caseNumber_44 at e
  unfold f_X12_caseNumber_62 at g
  obtain ⟨-, g⟩ := hf_ite g
  rw [hx] at g
  obtain ⟨ib6, g⟩ := hf_ite g
  obtain ⟨P, eP, e⟩ := hf_bind e
  obtain ⟨p1, p2⟩ := y_has N f P hc.1 (by omega) (show f_X0_hasCase_2 N N S v f = some P from eP)
  obtain ⟨q1, q2⟩ := y_75 N L s _ Q hl g
  rw [p1] at e
  rcases p2 with ⟨p0, pn⟩ | ⟨p0, py⟩
  · have no : ¬ ∃ j ∈ L, s.a 28 j = 0 ∧ s.a 25 j = v := fun z => pn ((hc.2.2 v).mpr z)
    have g2 := q2 h15 no
    rw [if_pos p0] at e
    obtain ⟨w, ew, e⟩ := hf_bind e
    obtain ⟨a, ea, e⟩ := hf_bind e
    cases e
    obtain ⟨y, gy, g2⟩ := hf_bind g2
    obtain ⟨u, gu, g2⟩ := hf_bind g2
    have en := y_entry hx gy
    have bz : vp_nar .boolean (0 : Int32) = 0 := by decide
    rw [bz] at en
    obtain ⟨k, k1, k2, k3, k4, k5, k6, k7, k8⟩ := en.chain hl hq
    obtain ⟨n1, n2, n3, n4, n5, n6, n7, n8, n9, n10', n26⟩ := id en
    unfold f_X0_addCase at ew
    cases ew
    -- the class behind the number
    obtain ⟨S1, hS1⟩ : ∃ T, T = CS.setI (CS.putA (CS.putA S 18 (gPut (S.a 18) 320 (S.i 22) v)) 19 (gPut (CS.a (CS.putA S 18 (gPut (S.a 18) 320 (S.i 22) v)) 19) 320 (S.i 22) tgt)) 22 ((S.i 22) + 1) := ⟨_, rfl⟩
    rw [← hS1] at ea
    have s22 : (S1.i 22).toInt = (S.i 22).toInt + 1 := by
      rw [hS1, ci_at]
      exact ad1 r4 (by omega)
    have ck := clampI r4
    have s18 : S1.a 18 = upd (S.a 18) (S.i 22).toNatClampNeg v := by
      rw [hS1]
      show gPut (S.a 18) 320 (S.i 22) v = _
      unfold gPut
      exact if_pos ⟨r4, by omega⟩
    have pS1 : pj S1 = pj S := by rw [hS1]; rfl
    have pc1 : S1.i 20 = S.i 20 ∧ S1.i 23 = S.i 23 ∧ S1.i 38 = S.i 38 ∧ S1.a 15 = S.a 15 ∧ S1.a 16 = S.a 16 ∧ S1.a 17 = S.a 17 := by
      rw [hS1]
      exact ⟨rfl, rfl, rfl, rfl, rfl, rfl⟩
    have s19 : S1.a 19 = upd (S.a 19) (S.i 22).toNatClampNeg tgt := by
      rw [hS1]
      show gPut (S.a 19) 320 (S.i 22) tgt = _
      unfold gPut
      exact if_pos ⟨r4, by omega⟩
    have t1 : S1.i 32 = S.i 32 ∧ S1.i 34 = S.i 34 ∧ S1.i 41 = S.i 41 ∧ S1.i 42 = S.i 42 ∧ S1.i 43 = S.i 43 ∧ S1.i 44 = S.i 44 ∧ S1.i 45 = S.i 45 ∧ S1.l = S.l ∧ S1.a 0 = S.a 0 ∧ S1.b = S.b := by
      rw [hS1]
      exact ⟨rfl, rfl, rfl, rfl, rfl, rfl, rfl, rfl, rfl, rfl⟩
    clear hS1
    obtain ⟨z32, z34, z41, z42, z43, z44, z45, zl, za0, zb⟩ := t1
    have bt1 : BT S1 y := by
      obtain ⟨h1, h2, ⟨t1, t2, t3, t4⟩, ⟨k1, k2, k3, k4, k5, k6⟩, h5, h6, h7, h8⟩ := h.1
      have y2 : y.i 2 = s.i 2 := n8 2 (by decide)
      have y10 : y.i 10 = s.i 10 := n8 10 (by decide)
      have y11 : y.i 11 = s.i 11 := n8 11 (by decide)
      have y12 : y.i 12 = s.i 12 := n8 12 (by decide)
      have y14 : y.i 14 = s.i 14 := n8 14 (by decide)
      have y15 : y.i 15 = s.i 15 := n8 15 (by decide)
      have ya1 : y.a 1 = s.a 1 := n7 1 (by decide) (by decide) (by decide) (by decide) (by decide) (by decide)
      refine ⟨by rw [z32]; exact h1, by rw [y15]; exact h2, ⟨by rw [z41, y2]; exact t1, by rw [y2]; exact t2, fun k hk => by rw [y2] at hk; rw [za0, ya1]; exact t3 k hk, fun k hk => by rw [zb, n9]; exact t4 k hk⟩, ⟨by rw [z44, y11]; exact k1, by rw [z42, y12]; exact k2, by rw [z43, y10]; exact k3, by rw [z43]; exact k4, fun q => by rw [z43] at q; rw [zl, n10']; exact k5 q, fun q => by rw [z43] at q; rw [z45, y14]; exact k6 q⟩, by rw [y12, y2]; exact h5, fun k hk => by rw [n9]; exact h6 k hk, ?_, ?_⟩
      · unfold LC AB BY at *
        rw [z41, z42, z43, z44, z45, zl, za0]
        exact h7
      · unfold WDC at *
        rw [zb]
        exact h8
    obtain ⟨ba, adv, tu, b9⟩ := y_adv hN bt1 ea gu
    unfold f_X12_caseNumber_140 at g2
    rw [if_pos ba.2.1] at g2
    cases g2
    have kc := kc_X9_advance N S1 a ea
    have uq : ∀ k : Nat, k ≠ 10 → k ≠ 11 → k ≠ 12 → k ≠ 14 → k ≠ 17 → u.i k = y.i k := fun k h1 h2 h3 h4 h5 => (tu.1 k h1 h2 h3 h4).trans (if_neg h5)
    have u17 : (u.i 17).toInt = (s.i 17).toInt + 1 := by
      have e1 : u.i 17 = y.i 17 + 1 := tu.1 17 (by decide) (by decide) (by decide) (by decide)
      rw [e1, n8 17 (by decide)]
      exact t17_up (N := N) h
    have lc := h.1.2.2.2.2.2.2.1.2.2.2.1 (by rw [c1]; decide)
    have k11 := h.1.2.2.2.1.1
    have k12 := h.1.2.2.2.1.2.1
    have y12 : y.i 12 = s.i 12 := n8 12 (by decide)
    rw [y12] at b9
    rw [k11, k12] at lc
    have f1 : (s.i 11).toInt + 1 ≤ (u.i 11).toInt := by omega
    have R22 : a.2.i 22 = S1.i 22 := adv.1.2 22 (by decide) (by decide) (by decide) (by decide)
    have R18 : a.2.a 18 = S1.a 18 := by rw [adv.1.1.2.2.2.2.2.2.2.2.2.2]
    have R34 : a.2.i 34 = S1.i 34 := adv.1.2 34 (by decide) (by decide) (by decide) (by decide)
    have ra : u.a = y.a := by rw [tu.2.1]; rfl
    have rb : u.b = y.b := by rw [tu.2.2]; rfl
    have a18 : ∀ i : Nat, (i : Int) < (S.i 22).toInt → a.2.a 18 i = S.a 18 i := fun i hi => by
      rw [R18, s18]
      exact if_neg (by omega)
    have a18v : a.2.a 18 (S.i 22).toInt.toNat = v := by
      rw [R18, s18]
      exact if_pos rfl
    have Lt : ∀ j ∈ L, j < k := fun j hj => by
      have := chn.lt L _ hl j hj
      omega
    have cnc : CNC tgt S s a.2 u := by
      obtain ⟨w20, w15, w16, w17, w23, w38, -, w19⟩ := pe_eq (ke_X9_advance N S1 a ea)
      have ck2 := clampI n2.1
      have ek : (s.i 24).toNatClampNeg = k := by omega
      refine ⟨⟨w20.trans pc1.1, w23.trans pc1.2.1, w38.trans pc1.2.2.1, w15.trans pc1.2.2.2.1, w16.trans pc1.2.2.2.2.1, w17.trans pc1.2.2.2.2.2⟩, fun i hi => ?_, ?_, k, k1, ?_, fun i hi => ?_⟩
      · rw [w19, s19]
        exact if_neg (by omega)
      · rw [w19, s19]
        exact if_pos (by omega)
      · rw [ra, n26, ek]
        exact if_pos rfl
      · rw [ra, n26, ek]
        exact if_neg (by omega)
    refine Or.inr ⟨rfl, ⟨k, k1, ?_, ?_, ?_, kc.trans pS1, by rw [R22]; exact s22, a18, a18v, pn, fun hcap => ?_, f1, u17, ?_, ?_, ?_, ?_, fun m h1 h2 h3 h4 h5 h6 => ?_, fun j hj => ?_, fun i hi => ?_, fun i hi hi2 => ?_, fun i hi => ?_, fun m h1 h2 h3 h4 h5 h6 => ?_, rb.trans n9, ?_⟩, cnc⟩
    · exact hc.add (by rw [R22]; exact s22) r4 a18 a18v Lt (fun i hi => by rw [ra]; exact k6 i hi) (by rw [ra]; exact k4) (by rw [ra]; exact k5)
    · rw [ra]
      exact chn.up (by rw [uq 24 (by decide) (by decide) (by decide) (by decide) (by decide)]; exact Int.le_refl _) (fun i _ => by rw [ra]) _ _ k2
    · have := k3
      unfold FQL at *
      rw [ra]
      exact this
    · refine h.re ba (kc.trans pS1) (R34.trans z34) ?_ ?_ ?_ ?_ ?_ ?_ ?_ ?_ ?_ u17 ?_ ?_ f1 ⟨by rw [R22]; omega, by rw [R22]; omega⟩ ?_ ?_ ?_
      · exact (uq 38 (by decide) (by decide) (by decide) (by decide) (by decide)).trans (n8 38 (by decide))
      · exact (uq 3 (by decide) (by decide) (by decide) (by decide) (by decide)).trans (n8 3 (by decide))
      · exact (uq 18 (by decide) (by decide) (by decide) (by decide) (by decide)).trans (n8 18 (by decide))
      · exact (uq 53 (by decide) (by decide) (by decide) (by decide) (by decide)).trans (n8 53 (by decide))
      · exact (uq 54 (by decide) (by decide) (by decide) (by decide) (by decide)).trans (n8 54 (by decide))
      · exact (uq 55 (by decide) (by decide) (by decide) (by decide) (by decide)).trans (n8 55 (by decide))
      · rw [ra]; exact n7 4 (by decide) (by decide) (by decide) (by decide) (by decide) (by decide)
      · rw [ra]; exact n7 41 (by decide) (by decide) (by decide) (by decide) (by decide) (by decide)
      · rw [rb, n9]
      · exact (uq 19 (by decide) (by decide) (by decide) (by decide) (by decide)).trans (n8 19 (by decide))
      · exact (uq 20 (by decide) (by decide) (by decide) (by decide) (by decide)).trans (n8 20 (by decide))
      · have g := ((ADV.gain bt1.2.2.2.2.2.2.1 adv).2.1 (by rw [z43, c1]; decide)).2
        have q : eI S1 = eI S := by
          unfold eI plI
          rw [z43, z44]
        show eI S ≤ eI a.2
        omega
      · exact h.wp.of (by rw [uq 43 (by decide) (by decide) (by decide) (by decide) (by decide), n8 43 (by decide)]; exact Int.le_refl _) ((uq 56 (by decide) (by decide) (by decide) (by decide) (by decide)).trans (n8 56 (by decide))) ((uq 59 (by decide) (by decide) (by decide) (by decide) (by decide)).trans (n8 59 (by decide))) ((uq 29 (by decide) (by decide) (by decide) (by decide) (by decide)).trans (n8 29 (by decide))) (by rw [ra]; exact n7 58 (by decide) (by decide) (by decide) (by decide) (by decide) (by decide)) (by rw [ra]; exact n7 62 (by decide) (by decide) (by decide) (by decide) (by decide) (by decide))
      · exact (h.lb.kd z42 z43 z44 z45 zb).adv hN bt1.2.2.2.2.2.2.1 bt1.2.2.2.2.2.2.2 (by rw [adv.1.1.2.2.2.2.2.2.2.2.2.1]) ea
    · exact (uq 20 (by decide) (by decide) (by decide) (by decide) (by decide)).trans (n8 20 (by decide))
    · exact (uq 19 (by decide) (by decide) (by decide) (by decide) (by decide)).trans (n8 19 (by decide))
    · exact (uq 63 (by decide) (by decide) (by decide) (by decide) (by decide)).trans (n8 63 (by decide))
    · rw [uq 24 (by decide) (by decide) (by decide) (by decide) (by decide), n1]
      exact ad1 n2.1 (by omega)
    · rw [ra]; exact n7 m h1 h2 h3 h4 h5 h6
    · rw [ra, n5]; exact if_neg hj
    · rw [ra]; exact k6 i hi
    · rw [ra]; exact k7 i hi hi2
    · rw [ra]; exact k8 i hi
    · rw [uq m h1 h2 h3 h4 h5]; exact n8 m h6
    · intro z
      rw [k11, k12] at z
      show (s.i 11).toInt + 1 < (u.i 11).toInt
      omega
  · have yes : ∃ j ∈ L, s.a 28 j = 0 ∧ s.a 25 j = v := (hc.2.2 v).mp py
    obtain ⟨r1, r2⟩ := q1 (Or.inr yes)
    rw [if_neg (by rw [p0]; decide)] at e
    obtain ⟨w, ew, e⟩ := hf_bind e
    cases e
    exact Or.inl ⟨r1, y_fail (by decide) ew, r2⟩
