section
/-! both readers: the end of a for over a row -/
set_option maxHeartbeats 2000000 in
theorem en_row {N : Nat} {E1 : CS → Option (Unit × CS)} {E2 : CS → Option (Int32 × CS)} {d : Int32} {B : CS} {b : RS} {t0 n : Nat} {L : List CEL} {x : Int} {S : CS} {s U : RS} {c1 c : CEL} {R : Unit × CS} {Aj : JBA} (mA : JBM U Aj) (hC : COR d B b t0 (c1 :: c :: L) x S s) (tp : TOP S s c1) (hM : MEN c1 S s) (h304 : S.o c1.2.1 0 = 304) (bz : BAZ B b (c1 :: c :: L)) (hT : t0 ≤ ceT c1) (e : f_X7_endBody N E1 E2 S c1.2.1 = some R) (g : f_X12_parse_10 N n s = some U) : ∃ (m : Nat) (u : RS), f_X12_parse_10 N m u = some U ∧ POPD d B b t0 c L R.2 u ∧ JTR Aj U B b (c1 :: c :: L) S s (vws R.2 u (c :: L)) R.2 u := by
  obtain ⟨one, o5, ts, h75, hm⟩ := hM
  obtain ⟨m1, e1, k1, m2, e2, k2, cst⟩ := STK.mem _ _ _ _ hC.2.1 c1 List.mem_cons_self
  obtain ⟨⟨f1, f2, f3, f4, f5⟩, o7⟩ := cst.2.2.1.2.2.2.2.2.2.2.2.2.1 h304
  have hv := hC.1
  have go : isGo (S.o c1.2.1 0) := Or.inr (Or.inr (Or.inr (Or.inr (Or.inr h304))))
  obtain ⟨m2, V, hV, g2⟩ := rl_12 g ts hv.1.2.1 f1
  unfold f_X12_fors at hV
  obtain ⟨hib, hV⟩ := hf_ite hV
  have t9 : ceT c1 < 1000 := by
    have h2 : (s.i 63).toInt = (ceT c1 : Int) := ts
    have := hib.2
    omega
  have g73 : (s.a 73 (ceT c1)).toNatClampNeg = ceG c1 := by
    show (s.a 73 (ceT c1)).toInt.toNat = ceG c1
    omega
  rw [tp_nat ts, f2, if_neg (by decide), if_neg (by decide), if_neg (by decide), if_neg (by decide), if_neg (by decide), if_neg (by decide), if_neg (by decide), if_neg (by decide), if_neg (by decide), ob_id] at hV
  unfold f_X12_rows at hV
  obtain ⟨-, hV⟩ := hf_ite hV
  rw [tp_nat ts, f2, if_neg (by decide), if_neg (by decide), g73] at hV
  obtain ⟨-, hV⟩ := hf_ite hV
  obtain ⟨s1, hp1, hV⟩ := hf_bind hV
  obtain ⟨y, hy, hV⟩ := hf_bind hV
  obtain ⟨-, hV⟩ := hf_ite hV
  obtain ⟨q0, hp2, hV⟩ := hf_bind hV
  obtain ⟨z, hz, hV⟩ := hf_bind hV
  rw [ob_id] at hV
  have d2 : dbt (S.o c1.2.1 0) = 2 := by
    rw [h304]
    rfl
  obtain ⟨hE0, ⟨lk, lw0, tp0, tq0⟩, frm, ⟨q50, q44⟩, ⟨q43, q38⟩, ph0⟩ := lp_pt (pf := 66) hC tp ts hT go (by rw [h304]; unfold isTy; decide) (by rw [h304]; decide) (by rw [h304]; rfl) (by rw [h304]; rfl) (by rw [d2]; decide) (Or.inl rfl) (Or.inl ⟨Or.inr h304, rfl⟩) hp1 hy hp2
  rw [d2] at ph0
  have pd0 := (PDM.ge S (c :: L)).1
  have b30 := hC.2.2.2.2.2.2.2.2.2.2.2.1
  -- the last instruction
  obtain ⟨n1, n2, n3, n4, n5, n6, n7, n8, n9, n19, -⟩ := y_emit hE0.1 tq0 (by omega) hz
  have hinq : INL S q0 (ceT c1) (c :: L) := by
    have z := STK.inl L c _ _ _ hE0.2.1 (by have := tp.1; have := lk.1; omega) (by have := tp0.2.1; have := lk.2.2.1; omega) (by have := tp0.2.2; have := lk.2.2.2.1; omega)
    rw [← lk.2.1] at z
    exact z
  have hE := hE0.mv3 hinq hT n1 (n3 _) n4 ⟨by rw [n8]; exact Int.le_refl _, by omega, by rw [n9]; exact Int.le_refl _, by rw [n19]⟩
  have zt := n4.1.1
  have z43 : z.2.i 43 = q0.i 43 := zt.2.2.2.2.1
  have z56 : z.2.i 56 = q0.i 56 := zt.2.2.2.2.2.2.1
  have z71 : z.2.a 71 (ceT c1) = S.o c1.2.1 3 := by
    rw [(n3 (ceT c1 + 1)).all 71 (by decide) (by decide), frm 71 (by decide) (by decide)]
    exact f4
  have gi : (ceG c1 : Int) < (q0.i 43).toInt := by
    have := tp0.2.1
    have := nGo1 go
    omega
  have z44 : z.2.a 44 (ceG c1) = 0 := by
    rw [(n4.1.r.2.1 (ceG c1) gi).1, q44]
    exact f5
  -- the class
  unfold f_X7_endBody at e
  obtain ⟨-, e⟩ := hf_ite e
  rw [if_neg (by rw [h304]; decide), if_neg (by rw [h304]; decide), if_neg (by rw [h304]; decide), if_neg (by rw [h304]; decide)] at e
  obtain ⟨p36, e36, e⟩ := hf_bind e
  obtain ⟨-, e⟩ := hf_ite e
  obtain ⟨p41, e41, e⟩ := hf_bind e
  obtain ⟨-, e⟩ := hf_ite e
  obtain ⟨a1, a2, -, -⟩ := y_add hv e36
  obtain ⟨b1, b2, -, -⟩ := y_aim a1 e41
  obtain ⟨a1q, -, -, -⟩ := y_add hE.1 e36
  obtain ⟨b1q, -, -, -⟩ := y_aim a1q e41
  have ck := a2.tr b2
  have hin0 := hC.inl tp (T := ceT c1 + wid (S.o c1.2.1 0)) rfl
  have eo : ∀ z ∈ c1 :: c :: L, p41.2.o z.2.1 = S.o z.2.1 := fun z hz => (hin0.o ck.z z hz).1
  have eo1 := eo c1 List.mem_cons_self
  have eoc := eo c (List.mem_cons_of_mem _ List.mem_cons_self)
  rw [eo1, if_pos o7] at e
  have hinz : INL S z.2 (ceT c1) (c :: L) := hinq.mv (CKZ.rf S) rfl z43 z56
  have hEp := hE.cx hinz hT b1q ck
  have g43 : (z.2.i 43 - 1).toInt = (z.2.i 43).toInt - 1 := by
    have e1 : (1 : Int32).toInt = 1 := by decide
    have hi := Int32.toInt_lt (z.2.i 43)
    rw [← z43] at gi
    rw [toInt_sub] <;> rw [e1] <;> omega
  have tpp : TOP p41.2 z.2 c1 := ⟨by rw [ck.1.2.2.2.2.1]; exact tp.1, by rw [eo1, z43]; exact tp0.2.1, by rw [eo1, z56]; exact tp0.2.2⟩
  have lkp : LNK p41.2 c1 c := by
    unfold LNK at *
    rw [eo1, eoc]
    exact lk
  have lwp : LOW p41.2 z.2 c := by
    have w := lw0.mv (rfl : S.o c.2.1 = S.o c.2.1) (n3 (ceT c1)) (by rw [lk.2.1]; exact Nat.le_refl _)
    unfold LOW at *
    rw [eoc]
    exact w
  obtain ⟨X1, X2, X3, X4, X5⟩ := e_193 (n := c.1) (by rw [ck.1.2.2.2.2.1]; have := tp.1; have := lk.1; omega) e
  have ob := hC.2.2.2.2.2.2.2.1.2
  have ord := STK.ord (c :: L) c1 _ _ _ hC.2.1
  have i50 : p41.2.i 50 = S.i 50 := ck.1.2.2.2.1
  refine ⟨m2, V, g2, (pop_core hEp tpp lkp lwp bz hT t9 n2 (by rw [eo1, h304]; rfl) (fun _ => by rw [z44]; decide) (Or.inr rfl) hV ⟨fun k h1 h2 h3 => ((if_neg h1).trans (if_neg h2)).trans (if_neg h3), rfl, rfl, rfl⟩ (by rw [eo1]; exact z71) (by rw [eo1, nGo1 go]; exact g43) (by rw [eo1, i50]; exact ob.1 c1 List.mem_cons_self) (fun w hw => by rw [eo1, eo w (List.mem_cons_of_mem _ hw)]; exact ob.2.1 w (List.mem_cons_of_mem _ hw) c1 List.mem_cons_self (ord w hw)) X1 X2 X3 X4 X5).1, fun _ jw => ?_⟩
  -- the code
  obtain ⟨-, -, b0, col, hc⟩ := id hC.2.2.2.2.2.2.2.2.2.2
  obtain ⟨hx48, hx49⟩ := hc.2.2.1 c1 List.mem_cons_self go
  have ph := hC.2.2.2.2.2.2.1.2.1
  have phe : PDM S (c1 :: c :: L) = 2 + PDM S (c :: L) := by
    show dbt (S.o c1.2.1 0) + PDM S (c :: L) = _
    rw [d2]
  have e22a := pt_in (F := fun k => col k = some (ceG c1, false)) (κ := (ceG c1, false)) hc (fun k hk => hk) hx49 hp1
  have s66 : s1.a 66 (ceT c1) = s.a 66 (ceT c1) := by rw [e22a.2.2.2.1 66 (by decide)]
  rw [s66] at hy
  have eo36 := (hin0.o a2.z c1 List.mem_cons_self).1
  rw [eo36] at e41
  have pl6 := hc.2.2.2.2.2.2 c1 List.mem_cons_self (s.a 66 (ceT c1)).toInt (Or.inl ⟨Or.inr h304, rfl⟩)
  have c6 := clampI (show 0 ≤ (s.a 66 (ceT c1)).toInt by have := pl6.1; omega)
  have p20 := hv.p20
  have p20q := hE0.1.p20
  obtain ⟨l1, l2, u, ⟨k1, k2⟩, e22, x1, x2, x3, x4, x5, q20, qi, qa⟩ := lp_alt (pf := 66) (T := ceT c1) hc hx48 hx49 (Or.inl rfl) pl6.2.2.1 (by rw [c6]; exact pl6.2.1) ⟨p20.1, by omega⟩ hp1 hy hp2
  obtain ⟨w, hw⟩ : ∃ w, w = z.2.i 52 - 1 := ⟨_, rfl⟩
  obtain ⟨z', hz', za, zi, z52, zk, zA⟩ := em_52 (v := w) hz
  obtain ⟨y', hy', ya', y20', yi'⟩ := x5 (RS.setI u 52 w) rfl rfl
  have s52 : z.2.i 52 = s.i 52 := (zk 52 (by decide)).trans (qi 52 (by decide))
  have hr0 : (vw S s c1).v = 304 := h304
  have lo : isLo (vw S s c1).v := Or.inr (Or.inr (Or.inr hr0))
  have goV : isGo (vw S s c1).v := go
  have nty : ¬ isTy (vw S s c1).v := fun z => by
    rw [hr0] at z
    rcases z with z | z | z | z <;> exact absurd z (by decide)
  have r66 : (vw S s c1).2.1 66 = s.a 66 (ceT c1) := (vw_at (k := 66) ⟨by decide, by decide⟩)
  have si : ∀ k : Nat, rsite (vw S s c1) k ↔ (k : Int) = (s.a 66 (ceT c1)).toInt := fun k => by
    unfold rsite
    rw [hr0, r66]
    refine ⟨fun z => ?_, fun z => Or.inl ⟨Or.inr (Or.inl rfl), z⟩⟩
    rcases z with ⟨-, z⟩ | ⟨z, -⟩ | ⟨z, -⟩ | ⟨z, -⟩
    · exact z
    · exact absurd z (by decide)
    · exact absurd z (by decide)
    · exact absurd z (by decide)
  have gis := hC.gis
  have h44 : (S.i 44).toInt ≤ 900 := by
    rw [hv.p44.1]
    exact (i11_hi hv).2
  obtain ⟨ee, he1, he2⟩ := clo_e (S.i 43)
  have rt : rtgs (vw S s c1) = [(vw S s c1).1 9] := by
    unfold rtgs
    rw [hr0, if_neg (by decide), if_pos (by decide)]
  have en : ∀ (G : GHT) (ω h l : Nat), jen G ω (vw S s c1) h l = [(4, h, (G (vw S s c1).2.2.1).1, (G (vw S s c1).2.2.1).2.1, 0, 0, 0)] := fun G ω h l => by
    unfold jen
    rw [hr0, if_neg (by decide), if_neg (by decide), if_neg (by decide), if_neg (by decide), if_pos rfl]
    rfl
  have j0 := JRW.clo (V := vws S s (c :: L)) (r := vw S s c1) (u := u) (u' := RS.setI u 52 w) (S' := S) (l1 := l1) (l2 := l2) (vb := s.i 20 + 1) (vc := s.a 66 (ceT c1)) (vs := s.i 20 + 1) (e := ee) (dr := 1) jw (fun y => y.cl rfl rfl (show w = s.i 52 - d32 (vw S s c1).v by rw [d32.yes (Or.inr (Or.inr (Or.inr (Or.inr hr0)))), hw, s52]) (show (u.i 38).toInt ≤ (s.i 38).toInt by rw [e22.1]; exact Int.le_refl _)) h44 mA (vws.pl hC) (fun _ y hy gy e => by have := gis y hy gy; have e' : y.2.2.2 = ceG c1 := e; omega) nty (by rw [hr0]; decide) (fun _ => ⟨k1, fun _ => k2⟩) e22 (fun _ j hj => x1 j hj) (fun _ j hj => x2 j hj) (fun j z => by
    have z1 := (si j).mp z
    have z2 : j = (s.a 66 (ceT c1)).toNatClampNeg := by omega
    exact ⟨by rw [z2]; exact x3, by have := pl6.1; omega⟩) (fun j n1 n2 n3 => x4 j (n1 goV) (n2 lo) (fun z2 => n3 ((si j).mpr (by rw [z2]; exact c6)))) (D38.rf _) ⟨⟨rfl, rfl, rfl, rfl, rfl⟩, rfl, rfl, rfl, rfl, rfl, rfl, rfl, rfl, rfl, rfl, rfl, rfl, rfl, rfl⟩ ⟨Or.inl rfl, rfl, rfl, rfl⟩ (fun _ _ _ => rfl) (fun nm G ω j ng hcx => by
      rw [en] at ng hcx
      refine ⟨NMH.pop ng (show ¬ (4 : Nat) = 2 by decide) rfl rfl (by show u.i 38 = s.i 38; rw [e22.1]) (e22.2 40 (by decide)) (by show (S.i 38).toInt = (S.i 38).toInt + (if (4 : Nat) ≤ 3 then 1 else 0); rw [if_neg (by decide)]; omega) ?_ rfl (by show u.i 42 = s.i 42; rw [e22.1]) (by show u.i 20 = s.i 20; rw [e22.1]), hcx.tl⟩
      show (s.i 52).toInt = w.toInt + 1
      have n3 : (((j.c.length + 1 : Nat)) : Int) = (s.i 52).toInt := ng.2.2.1
      have e1 : (1 : Int32).toInt = 1 := by decide
      have hi := Int32.toInt_lt (s.i 52)
      rw [hw, s52]
      have z : (s.i 52 - 1).toInt = (s.i 52).toInt - 1 := by
        rw [toInt_sub] <;> rw [e1] <;> omega
      omega) (fun G => by
      show (1 : Int) ≤ dbr (G (vw S s c1).2.2.1) (S.o c1.2.1 0)
      rw [h304]
      exact Int.le_refl _) he1
  rw [rt] at j0
  have j1 := j0.lop (by unfold pcR; show (u.i 20).toInt.toNat = _; rw [e22.1]) e36 h44 hy' (by show 0 ≤ (u.i 20).toInt ∧ (u.i 20).toInt < 3000; rw [e22.1]; exact ⟨p20.1, by omega⟩) e41 (by rcases he1 with z | ⟨z, -⟩ <;> omega)
  have qy : ∀ k : Nat, (RS.setI q0 52 w).i k = y'.2.i k := fun k => by
    by_cases h2 : k = 52
    · rw [h2, yi' 52 (by decide)]
      rfl
    · have e1 : (RS.setI q0 52 w).i k = q0.i k := if_neg h2
      by_cases h0 : k = 20
      · rw [e1, h0, y20']
      · have e2 : (RS.setI u 52 w).i k = u.i k := if_neg h2
        rw [e1, qi k h0, yi' k h0, e2, e22.1]
  have pz : pcR y'.2 = pcR q0 := by unfold pcR; rw [y20']
  rw [pz] at j1
  have j2 := j1.se (u := RS.setI q0 52 w) (by
    unfold qe
    rw [show (RS.setI q0 52 w).a = y'.2.a from ya'.symm, qy 20, qy 24, qy 29, qy 33, qy 42, qy 52]) ⟨qy 38, fun j _ => by rw [show (RS.setI q0 52 w).a = y'.2.a from ya'.symm]⟩
  have j3 := j2.emr hz' (by show 0 ≤ (q0.i 20).toInt ∧ (q0.i 20).toInt < 3000; exact ⟨p20q.1, by omega⟩)
  have p43 : p41.2.i 43 = S.i 43 ∧ p41.2.i 44 = S.i 44 := by
    unfold f_X0_aim f_X0_add at *
    cases e36
    cases e41
    exact ⟨rfl, rfl⟩
  have j4 := j3.p12 (by rw [p43.2]; exact h44) (by decide)
  have t43 := tp.2.1
  have o3le := (ob.1 c1 List.mem_cons_self).2
  have zq : ∀ k : Nat, k ≠ 20 → z.2.i k = s.i k := fun k hk => (zk k hk).trans (qi k hk)
  obtain ⟨jr, oR, aV⟩ := j4.pop1 (n := c.1) (q' := RS.setI (RS.setI (RS.setI z.2 52 (z.2.i 52 - 1)) 43 (z.2.i 43 - 1)) 38 (z.2.a 71 (ceT c1))) (by omega) (by rw [p43.1]; exact he2) (by rw [ck.1.2.2.2.2.1]; have := tp.1; have := lk.1; omega) e ⟨fun k h1 h2 => by
      by_cases h3 : k = 52
      · rw [h3, z52, hw]
        rfl
      · exact (((if_neg h1).trans (if_neg h2)).trans (if_neg h3)).trans (zi k h3).symm, za.symm⟩ (by
    show (z.2.a 71 (ceT c1)).toInt ≤ (z'.2.i 38).toInt
    rw [z71, zi 38 (by decide), zq 38 (by decide), ← hv.2.1.1]
    exact o3le) hV (fun y hy gy => by
    have := gis y hy gy
    show ((y.2.2.2 : Nat) : Int) < (z.2.i 43 - 1).toInt
    rw [g43, zq 43 (by decide)]
    have := nGo1 go
    omega) (fun k k1 k2 => by
      show z'.2.a k = u.a k
      rw [za, zA k (by omega), qa k (by omega), e22.2 k (by omega)]) (by show z'.2.i 59 = u.i 59; rw [zi 59 (by decide), zq 59 (by decide), e22.1]) (by show (u.i 11).toInt ≤ (z'.2.i 11).toInt; rw [zi 11 (by decide), zq 11 (by decide), e22.1]; exact Int.le_refl _) (by show (u.i 19).toInt ≤ (z'.2.i 19).toInt; rw [zi 19 (by decide), zq 19 (by decide), e22.1]; exact Int.le_refl _) (fun FC SF nm X ω j Z hω r12 hcc k cur => by
    obtain ⟨p12', ⟨v1, -, -, v3, pe3⟩, ⟨ct, pq, ⟨s1', s2'⟩, ⟨u1', u2'⟩, pe1, pe2⟩, ⟨st, hd, rp, -⟩, G', hci, hY, hX⟩ := k
    have p12 := pq.1
    have pw : pcR (RS.setI q0 52 w) = pcR q0 := rfl
    rw [pw] at v1 v3 pe3
    rw [pe1] at p12'
    have pS : (s.i 20 + 1).toInt = ((pcR s + 1 : Nat) : Int) := by
      have z1 : (s.i 20).toInt = ((pcR s : Nat) : Int) := (Int.toNat_of_nonneg p20.1).symm
      rw [ad1 p20.1 (by omega)]
      omega
    obtain ⟨p0, c0, l0, -⟩ := hd (S.o c1.2.1 10) (Or.inl ⟨Or.inr (Or.inr (Or.inl hr0)), rfl⟩)
    have q66 := (rp go).1 (Or.inr (Or.inr hr0))
    rw [r66] at q66
    have cq : (s.a 66 (ceT c1)).toInt = (((s.a 66 (ceT c1)).toInt.toNat : Nat) : Int) := (Int.toNat_of_nonneg q66).symm
    have bk : jbk G' ω (vw S s c1) j = j.en (jen G' ω (vw S s c1) j.h j.l) := if_pos hr0
    have cn : jcn G' ω (vw S s c1) j = (j.en (jen G' ω (vw S s c1) j.h j.l)).up 1264 := by
      unfold jcn
      rw [if_neg (by rw [hr0]; decide), bk]
    rw [pe1, pe3, pe2] at cur
    rw [pe2] at v1 v3
    have ex : ∀ Y : Als, S01 (GU FC SF U nm X) (GU FC SF U nm Y) → GU FC SF U nm Y (pcC S + 1) (pcR s + 1) j.h (ω + j.l - (pcC S + 1)) 0 (jen G' ω (vw S s c1) j.h j.l ++ j.c) := fun Y sy => gi_URwp ⟨⟨p12', by omega⟩, hci⟩ v3.1 ⟨v1, _, j.c, _, by rw [en]; rfl, rfl, sy _ _ _ _ _ _ (Nat.zero_le _) (cur rfl).1, Nat.le_refl _⟩
    refine lop_fin (jh := j.en (jen G' ω (vw S s c1) j.h j.l)) c0 l0 cq hY hX (fun Y h => by rw [← r66]; exact h.2.2.2.1 hr0) (fun Y sy hed => ⟨⟨fun z => absurd (hr0.symm.trans z) (by decide), fun z => absurd (hr0.symm.trans z) (by decide), fun z => absurd (hr0.symm.trans z) (by decide), fun z => absurd (hr0.symm.trans z) (by decide), fun z => absurd (hr0.symm.trans z) (by decide), fun _ => ⟨?_, ⟨_, _, c0, by rw [r66]; exact cq, l0, hed⟩⟩, fun z => absurd (hr0.symm.trans z) (by decide), fun z => absurd z nty, fun _ => noc.gl⟩, fun _ => ⟨fun fl => ?_, fun _ _ => ?_⟩, fun h1 => ?_⟩)
    · have e9 := st (s.a 66 (ceT c1)).toNatClampNeg ((si _).mpr c6)
      refine ⟨_, _, ct, ?_, ex Y sy⟩
      rw [r66, e9]
      exact pS
    · rw [bk]
      exact ⟨_, _, ct, pS, ex Y sy⟩
    · rw [cn]
      refine ⟨_, _, c0, cq, ?_⟩
      have z := hed.1
      rw [show ω + (j.en (jen G' ω (vw S s c1) j.h j.l)).l + 1264 - p0 = ω + ((j.en (jen G' ω (vw S s c1) j.h j.l)).up 1264).l - p0 by (show ω + j.l + 1264 - p0 = ω + (j.l + 1264) - p0; omega)] at z
      exact z
    · have jl : jlv (vw S s c1).v = 2528 := by rw [hr0]; rfl
      rw [jl]
      have hl : (j.en (jen G' ω (vw S s c1) j.h j.l)).l = j.l := rfl
      have z : ∀ g : Nat, GU FC SF U nm Y (pcC S) (pcR s) j.h (ω + (j.l + 2528) - pcC S) g (jen G' ω (vw S s c1) j.h j.l ++ j.c) := fun g => gi_UJmp (pq.hc hci) pq.2.1 ⟨s1', u1', p0, _, _, ⟨by rw [s2']; exact c0, by rw [u2']; exact cq⟩, by rw [hl]; omega, hed.1⟩
      exact ⟨z 0, z 1⟩)
  rw [clo_veq (hC.drop (by rw [h304]; unfold isTy; decide) (by rw [h304]; decide) (by rw [h304]; rfl) (by rw [h304]; rfl)).1 tp lk (fun j _ => by rw [aV, za, zA 40 (by omega), qa 40 (by omega)]) (fun y hy => by rw [oR]; exact (hin0.o ck.z y (List.mem_cons_of_mem _ hy)).1) (fun k t h1 h2 _ => by rw [aV, za, zA k (by omega), qa k (by omega)])]
  exact jr
end
section
/-! both readers: an if's end, no else -/
set_option maxHeartbeats 1000000 in
theorem en_if0 {N : Nat} {E1 : CS → Option (Unit × CS)} {E2 : CS → Option (Int32 × CS)} {d : Int32} {B : CS} {b : RS} {t0 n : Nat} {L : List CEL} {x : Int} {S : CS} {s U : RS} {c1 c : CEL} {R : Unit × CS} {Aj : JBA} (mA : JBM U Aj) (hC : COR d B b t0 (c1 :: c :: L) x S s) (tp : TOP S s c1) (hM : MEN c1 S s) (h203 : S.o c1.2.1 0 = 203) (n204 : ¬ S.i 43 = 204) (bz : BAZ B b (c1 :: c :: L)) (hT : t0 ≤ ceT c1) (e : f_X7_endBody N E1 E2 S c1.2.1 = some R) (g : f_X12_parse_10 N n s = some U) : ∃ (m : Nat) (u : RS), f_X12_parse_10 N m u = some U ∧ POPD d B b t0 c L R.2 u ∧ JTR Aj U B b (c1 :: c :: L) S s (vws R.2 u (c :: L)) R.2 u := by
  obtain ⟨one, o5, ts, h75, hm⟩ := hM
  obtain ⟨m1, e1, k1, m2, e2, k2, cst⟩ := STK.mem _ _ _ _ hC.2.1 c1 List.mem_cons_self
  obtain ⟨f1, f2⟩ := cst.2.2.1.2.2.2.2.1 h203
  have hv := hC.1
  have ngo : ¬ isGo (S.o c1.2.1 0) := by
    rw [h203]
    unfold isGo
    decide
  have k204 := tk_is hv (a := 204) (b := 414) (Or.inr ⟨by decide, by decide⟩) (by decide)
  obtain ⟨m2, V, hV, g2⟩ := rl_9 g ts hv.1.2.1 f1
  unfold f_X12_branch at hV
  obtain ⟨hib, hV⟩ := hf_ite hV
  have t9 : ceT c1 < 1000 := by
    have h2 : (s.i 63).toInt = (ceT c1 : Int) := ts
    have := hib.2
    omega
  rw [tp_nat ts, f2, if_neg (by decide), if_neg (by decide), if_pos rfl, if_neg (fun z => n204 (k204.mpr z))] at hV
  obtain ⟨-, hV⟩ := hf_ite hV
  rw [ob_id] at hV
  obtain ⟨hD, inj, ord, lk, lw⟩ := hC.drop (by rw [h203]; unfold isTy; decide) (by rw [h203]; decide) (by rw [h203]; rfl) (by rw [h203]; rfl)
  obtain ⟨-, -, b0, col, hc⟩ := id hC.2.2.2.2.2.2.2.2.2.2
  have fr : FRE S s (c :: L) (cdr (ceG c1) col) (b.i 20).toInt (s.a 66 (ceT c1)).toNatClampNeg := (hc.fre b0).2 _ (Or.inl ⟨Or.inl h203, rfl⟩)
  have e22 := E22.set (s := s) (v := s.i 20) fr
  obtain ⟨hE, -⟩ := hD.e22 (hc.drop inj) e22
  obtain ⟨q, hq⟩ : ∃ q, q = RS.setA s 22 (s.a 66 (ceT c1)).toNatClampNeg (s.i 20) := ⟨_, rfl⟩
  rw [← hq] at hV e22 hE
  have x8 : ∀ j : Nat, ¬ j = (s.a 66 (ceT c1)).toNatClampNeg → q.a 22 j = s.a 22 j := by rw [hq]; exact fun j hj => setA_ne hj
  have x7 : q.a 22 (s.a 66 (ceT c1)).toNatClampNeg = s.i 20 := by rw [hq]; exact setA_at
  clear hq
  -- the class
  unfold f_X7_endBody at e
  obtain ⟨-, e⟩ := hf_ite e
  rw [if_pos h203] at e
  have e3 := ob_un e
  unfold f_X7_endIf at e3
  obtain ⟨p1, ep1, e3⟩ := hf_bind e3
  unfold f_X1_skip at ep1
  obtain ⟨fd, efd, ep1⟩ := hf_bind ep1
  rw [e_fnd0 n204] at efd
  rw [← Option.some.inj efd, if_pos rfl] at ep1
  unfold f_X1_skip_17 at ep1
  obtain ⟨-, ep1⟩ := hf_ite ep1
  rw [← Option.some.inj ep1, if_pos rfl] at e3
  obtain ⟨-, e3⟩ := hf_ite e3
  obtain ⟨p, ep, e3⟩ := hf_bind e3
  have e4 := ob_un e3
  obtain ⟨a1, a2, -, -⟩ := y_aim hv ep
  have hin := hC.inl tp (T := ceT c1 + wid (S.o c1.2.1 0)) rfl
  have eo : ∀ z ∈ c1 :: c :: L, p.2.o z.2.1 = S.o z.2.1 := fun z hz => (hin.o a2.z z hz).1
  have eo1 := eo c1 List.mem_cons_self
  have eoc := eo c (List.mem_cons_of_mem _ List.mem_cons_self)
  have i53 : (CS.setI p.2 36 1).i 53 = S.i 53 := by
    rw [ci_ne _ _ _ (by decide)]
    exact a2.1.2.2.2.2.1
  obtain ⟨p1', p2'⟩ := e_pop (n := c.1) (by rw [i53]; have := tp.1; have := lk.1; omega) e4
  have i50 : p.2.i 50 = S.i 50 := a2.1.2.2.2.1
  have c50 : S.i 50 = S.o c1.2.1 3 := hm one (by rw [h203]; decide) (by rw [h203]; decide)
  have X1 : ∀ k : Nat, k ≠ 36 → k ≠ 50 → k ≠ 53 → R.2.i k = p.2.i k := fun k h1 _ h3 => by
    rw [p1', ci_ne _ _ _ h3, ci_ne _ _ _ h1]
  have X2 : R.2.i 50 = p.2.o c1.2.1 3 := by
    rw [p1', ci_ne _ _ _ (by decide), ci_ne _ _ _ (by decide), i50, eo1]
    exact c50
  have X3 : (R.2.i 53).toInt = (c.1 : Int) + 1 := by
    rw [p1', ci_at]
    exact p2'
  have X4 : R.2.i 36 = 1 := by
    rw [p1', ci_ne _ _ _ (by decide), ci_at]
  have X5 : R.2.r = p.2.r ∧ R.2.o = p.2.o ∧ R.2.ol = p.2.ol ∧ R.2.a = p.2.a ∧ R.2.b = p.2.b ∧ R.2.l = p.2.l ∧ (R.2.hs = p.2.hs ∧ R.2.L = p.2.L ∧ R.2.k = p.2.k) := by
    rw [p1']
    exact ⟨rfl, rfl, rfl, rfl, rfl, rfl, rfl, rfl, rfl⟩
  have tpq := tp.e22 e22
  have hinq : INL S q (ceT c1) (c :: L) := by
    have z := STK.inl L c _ _ _ hE.2.1 (by have := tp.1; have := lk.1; omega) (by have := tpq.2.1; have := lk.2.2.1; omega) (by have := tpq.2.2; have := lk.2.2.2.1; omega)
    rw [← lk.2.1] at z
    exact z
  have hEp := hE.cx hinq hT (a1.e22 e22) a2
  have tpp : TOP p.2 q c1 := ⟨by rw [a2.1.2.2.2.2.1]; exact tp.1, by rw [eo1]; exact tpq.2.1, by rw [eo1]; exact tpq.2.2⟩
  have lkp : LNK p.2 c1 c := by
    unfold LNK at *
    rw [eo1, eoc]
    exact lk
  have lwp : LOW p.2 q c := by
    have w := lw.e22 e22
    unfold LOW at *
    rw [eoc]
    exact w
  have ob := hC.2.2.2.2.2.2.2.1.2
  have s50 := hv.2.1.1
  refine ⟨m2, V, g2, (pop_core hEp tpp lkp lwp bz hT t9 (by show (q.i 63).toInt = _; rw [e22.1]; exact ts) (by rw [eo1, h203]; rfl) (fun z => by rw [eo1] at z; exact absurd z ngo) (Or.inr rfl) hV ⟨fun _ _ _ _ => rfl, rfl, rfl, rfl⟩ (by rw [eo1, e22.1, ← s50]; exact c50) (by rw [eo1, nGo.eq ngo]; omega) (by rw [eo1, i50]; exact ob.1 c1 List.mem_cons_self) (fun z hz => by rw [eo1, eo z (List.mem_cons_of_mem _ hz)]; exact ob.2.1 z (List.mem_cons_of_mem _ hz) c1 List.mem_cons_self (ord z hz)) X1 X2 X3 X4 X5).1, fun _ jw => ?_⟩
  -- the code
  have hr0 : (vw S s c1).v = 203 := h203
  have ngV : ¬ isGo (vw S s c1).v := ngo
  have nlo : ¬ isLo (vw S s c1).v := fun z => ngV (Or.inr (Or.inr z))
  have nty : ¬ isTy (vw S s c1).v := fun z => by
    rw [hr0] at z
    rcases z with z | z | z | z <;> exact absurd z (by decide)
  have r66 : (vw S s c1).2.1 66 = s.a 66 (ceT c1) := (vw_at (k := 66) ⟨by decide, by decide⟩)
  have si : ∀ k : Nat, rsite (vw S s c1) k ↔ (k : Int) = (s.a 66 (ceT c1)).toInt := fun k => by
    unfold rsite
    rw [hr0, r66]
    refine ⟨fun z => ?_, fun z => Or.inl ⟨Or.inl rfl, z⟩⟩
    rcases z with ⟨-, z⟩ | ⟨z, -⟩ | ⟨z, -⟩ | ⟨z, -⟩
    · exact z
    · exact absurd z (by decide)
    · exact absurd z (by decide)
    · exact absurd z (by decide)
  have pl6 := hc.2.2.2.2.2.2 c1 List.mem_cons_self (s.a 66 (ceT c1)).toInt (Or.inl ⟨Or.inl h203, rfl⟩)
  have c6 := clampI (show 0 ≤ (s.a 66 (ceT c1)).toInt by have := pl6.1; omega)
  have gis := hC.gis
  have h44 : (S.i 44).toInt ≤ 900 := by
    rw [hv.p44.1]
    exact (i11_hi hv).2
  obtain ⟨ee, he1, he2⟩ := clo_e (S.i 43)
  have rt : rtgs (vw S s c1) = [S.o c1.2.1 10] := by
    unfold rtgs
    rw [hr0, if_pos (by decide)]
    rfl
  have x3 := e22.1
  have x6 := e22.2.2.2.1
  have j0 := JRW.clo (V := vws S s (c :: L)) (r := vw S s c1) (u := q) (u' := q) (S' := S) (l1 := []) (l2 := []) (vb := 0) (vc := 0) (vs := s.i 20) (e := ee) (dr := 0) jw (fun z => z.c0 (by rw [hr0]; decide) (NK.eq rfl rfl (by rw [x3]) (by rw [x3]))) h44 mA (vws.pl hC) (fun z => absurd z ngV) nty (by rw [hr0]; decide) (fun z => absurd z ngV) ⟨x3, x6⟩ (fun z => absurd z ngV) (fun z => absurd z nlo) (fun j z => by
    have z1 := (si j).mp z
    have z2 : j = (s.a 66 (ceT c1)).toNatClampNeg := by omega
    exact ⟨by rw [z2]; exact x7, by have := pl6.1; omega⟩) (fun j _ _ z => x8 j (fun z2 => z ((si j).mpr (by rw [z2]; exact c6)))) (D38.rf _) (D52.rf _) ⟨Or.inl rfl, rfl, rfl, rfl⟩ (fun _ _ _ => rfl) (clo_nm (by rw [hr0]; decide) nty (by rw [hr0]; decide) x3 (x6 40 (by decide))) (fun _ => dbr.ge _ _) he1
  rw [rt] at j0
  have j1 := JRG.aim (W1 := []) (W2 := []) (K' := fun FC SF nm X ω j Z => (cTg SF (S.o c1.2.1 10)).toInt = ((pcC S : Nat) : Int) ∧ KCL U (vw S s c1) S s 0 0 (s.i 20) FC SF nm X ω j Z) j0 ep h44 (by rcases he1 with z | ⟨z, -⟩ <;> omega) (fun FC SF nm X ω j Z h k => ⟨h, k⟩)
  have pcp : pcC p.2 = pcC S := by unfold pcC f_X0_aim at *; cases ep; rfl
  have prp : pcR q = pcR s := by
    unfold pcR
    rw [x3]
  have p43 : p.2.i 43 = S.i 43 := by unfold f_X0_aim at ep; cases ep; rfl
  have t43 := tp.2.1
  obtain ⟨jr, oR, aV⟩ := j1.popx (R := R.2) (q' := q) (by omega) (by rw [p43]; exact he2) X1 X4 X5.2.1 X5.2.2.2.1 ⟨fun k _ _ => rfl, rfl⟩ (Int.le_refl _) hV (fun y hy gy => by
    have := gis y hy gy
    rw [x3]
    omega) (fun _ _ _ => rfl) rfl (Int.le_refl _) (Int.le_refl _) (fun FC SF nm X ω j Z hω r12 hcc k cur => by
    obtain ⟨ct, ⟨st, -, -⟩, G', -, -, hX⟩ := k
    have p20 := hv.p20
    have pS : (s.i 20).toInt = ((pcR s : Nat) : Int) := (Int.toNat_of_nonneg p20.1).symm
    have en : ∀ (h l : Nat), jen G' ω (vw S s c1) h l = [] := fun h l => jen.no (by rw [hr0]; decide) nty (by rw [hr0]; decide)
    rw [pcp, prp] at cur
    refine hX ⟨fun _ => ?_, fun z => absurd (hr0.symm.trans z) (by decide), fun z => absurd (hr0.symm.trans z) (by decide), fun z => absurd (hr0.symm.trans z) (by decide), fun z => absurd (hr0.symm.trans z) (by decide), fun z => absurd (hr0.symm.trans z) (by decide), fun z => absurd (hr0.symm.trans z) (by decide), fun z => absurd z nty, fun _ => noc.gl⟩ (fun z => absurd z ngV) (fun h1 => ?_)
    · have e9 := st (s.a 66 (ceT c1)).toNatClampNeg ((si _).mpr c6)
      refine ⟨_, _, ct, ?_, (cur rfl).1⟩
      rw [r66, e9]
      exact pS
    · have jl : jlv (vw S s c1).v = 0 := by rw [hr0]; rfl
      rw [en, jl]
      exact cur rfl)
  rw [clo_veq hD tp lk (fun j _ => by rw [aV, x6 40 (by omega)]) (fun y hy => by rw [oR]; exact (hin.o a2.z y (List.mem_cons_of_mem _ hy)).1) (fun k t h1 h2 _ => by rw [aV, x6 k (by omega)])]
  exact jr
end
section
/-! both readers: a list's end, the reference's LIST goes -/
theorem y_lend {N : Nat} {d : Int32} {S : CS} {s U : RS} {n t : Nat} (hv : ENV d S s) (ht : tpI s = (t : Int)) (hk : s.a 64 t = 1) (hm : (s.a 65 t = 0 ∧ S.i 36 = 1) ∨ (s.a 65 t = 1 ∧ s.i 75 = S.i 36)) (hb : S.i 36 = 0 ∨ S.i 36 = 1) (h10 : s.i 10 = 125 ∨ s.i 10 = 429 ∨ s.i 10 = 430 ∨ s.i 10 = 0) (g : f_X12_parse_10 N n s = some U) : ∃ (m : Nat) (V : RS), f_X12_parse_10 N m V = some U ∧ ENV d S V ∧ tpI V = (t : Int) - 1 ∧ FRB t s V ∧ TBK s V ∧ V.i 75 = S.i 36 ∧ phI V = phI s ∧ V.i 10 = s.i 10 ∧ V.i 11 = s.i 11 ∧ V.i 17 = s.i 17 ∧ V.i 19 = s.i 19 ∧ V.a 64 = s.a 64 ∧ ((∀ k : Nat, k ≠ 63 → k ≠ 75 → V.i k = s.i k) ∧ (∀ k : Nat, k ≠ 66 → V.a k = s.a k) ∧ V.b = s.b) := by
  obtain ⟨m, V, hV, g2⟩ := rl_1 g ht hv.1.2.1 hk
  unfold f_X12_list at hV
  obtain ⟨hib, hV⟩ := hf_ite hV
  have t9 : t < 1000 := by
    have h2 : (s.i 63).toInt = (t : Int) := ht
    have := hib.2
    omega
  rw [tp_nat ht] at hV
  have key : ∀ w : Int32, w = S.i 36 → f_X12_list_37 N (RS.setA s 66 t w) (s.i 63) = some V → ∃ (m : Nat) (V : RS), f_X12_parse_10 N m V = some U ∧ ENV d S V ∧ tpI V = (t : Int) - 1 ∧ FRB t s V ∧ TBK s V ∧ V.i 75 = S.i 36 ∧ phI V = phI s ∧ V.i 10 = s.i 10 ∧ V.i 11 = s.i 11 ∧ V.i 17 = s.i 17 ∧ V.i 19 = s.i 19 ∧ V.a 64 = s.a 64 ∧ ((∀ k : Nat, k ≠ 63 → k ≠ 75 → V.i k = s.i k) ∧ (∀ k : Nat, k ≠ 66 → V.a k = s.a k) ∧ V.b = s.b) := fun w hw e => by
    have ev : ENV d S (RS.setA s 66 t w) := setA_env (Or.inr ⟨by decide, by decide⟩) hv
    have fr : FRB t s (RS.setA s 66 t w) := setA_frb (Or.inr ⟨by decide, by decide, Nat.le_refl _⟩)
    have tk : TBK s (RS.setA s 66 t w) := setA_tbk ⟨by decide, by decide⟩
    have a66 : (RS.setA s 66 t w).a 66 t = w := setA_at
    have qi : (RS.setA s 66 t w).i = s.i := rfl
    have qa : (RS.setA s 66 t w).a 64 = s.a 64 := setA_nk (by decide)
    have qk : (∀ k : Nat, k ≠ 66 → (RS.setA s 66 t w).a k = s.a k) ∧ (RS.setA s 66 t w).b = s.b := ⟨fun k hk => setA_nk hk, rfl⟩
    obtain ⟨q, hq⟩ : ∃ q, q = RS.setA s 66 t w := ⟨_, rfl⟩
    rw [← hq] at e ev fr tk a66 qi qa qk
    clear hq
    have e73 : f_X12_list_73 N q (s.i 63) = some V := by
      unfold f_X12_list_37 at e
      rw [qi] at e
      rcases h10 with z | z | z | z
      · rw [if_pos z] at e
        exact e
      · rw [if_neg (by rw [z]; decide), if_pos z] at e
        exact e
      · rw [if_neg (by rw [z]; decide), if_neg (by rw [z]; decide), if_pos z] at e
        exact e
      · rw [if_neg (by rw [z]; decide), if_neg (by rw [z]; decide), if_neg (by rw [z]; decide), if_pos z] at e
        exact e
    unfold f_X12_list_73 at e73
    obtain ⟨-, e73⟩ := hf_ite e73
    rw [tp_nat ht, a66] at e73
    have ho : f_X12_over N q w = some V := by
      rcases hb with z | z
      · rw [hw.trans z] at e73 ⊢
        rw [if_neg (by decide), ob_id] at e73
        exact e73
      · rw [hw.trans z] at e73 ⊢
        rw [if_pos rfl, ob_id] at e73
        exact e73
    have tq : tpI q = (t : Int) := by
      show (q.i 63).toInt = _
      rw [qi]
      exact ht
    obtain ⟨v1, v2, v3, v4, v5, -, v7, v8, v9, v10⟩ := y_over ev tq t9 ho
    have phq : phI q = phI s := by
      unfold phI
      rw [qi]
    have V10 : V.i 10 = q.i 10 ∧ V.a 64 = q.a 64 ∧ (∀ k : Nat, k ≠ 63 → k ≠ 75 → V.i k = q.i k) ∧ V.a = q.a ∧ V.b = q.b := by
      unfold f_X12_over at ho
      obtain ⟨-, ho⟩ := hf_ite ho
      rw [← Option.some.inj ho]
      exact ⟨rfl, rfl, fun k h1 h2 => (if_neg h1).trans (if_neg h2), rfl, rfl⟩
    exact ⟨m, V, g2, v1, v2, fr.tr (v3 t), tk.tr v4, v5.trans hw, v7.trans phq, by rw [V10.1, qi], by rw [v8, qi], by rw [v9, qi], by rw [v10, qi], V10.2.1.trans qa, fun k h1 h2 => by rw [V10.2.2.1 k h1 h2, qi], fun k hk => by rw [V10.2.2.2.1]; exact qk.1 k hk, V10.2.2.2.2.trans qk.2⟩
  rcases hm with ⟨z1, z2⟩ | ⟨z1, z2⟩
  · rw [if_pos z1] at hV
    exact key 1 z2.symm hV
  · rw [if_neg (by rw [z1]; decide)] at hV
    rcases hb with k | k
    · rw [if_pos (z2.trans k)] at hV
      exact key 0 k.symm hV
    · rw [if_neg (by rw [z2, k]; decide)] at hV
      exact key 1 k.symm hV
/-- the sign that closes: the token goes, then one sign less -/
theorem y_clsA {N : Nat} (hN : 1000 ≤ N) {dl : Int32} {S : CS} {s : RS} {R : Unit × CS} {V : Int32 × RS} {c d : Int32} (h : ENV dl S s) (hc : tyR c) (hd : tm c = d) (h6 : ¬ d = 6) (h0 : ¬ c = 0) (k : S.i 43 = c) (e : f_X1_close N S c = some R) (g : f_X12_shut N s d = some V) : ∃ (A : Unit × CS) (q : RS), f_X9_advance N S = some A ∧ f_X12_next N s = some q ∧ ENV dl A.2 q ∧ R.2 = CS.setI A.2 34 (A.2.i 34 - 1) ∧ V.2 = RS.setI q 19 (q.i 19 - 1) ∧ V.1 = 1 := by
  have is := h.1.2.2.2.1.is hc hd
  have h15 := h.1.2.1
  unfold f_X1_close f_X1_close_22 at e
  unfold f_X12_shut f_X12_shut_18 f_X12_need f_X12_need_27 f_X12_need_31 at g
  rw [if_pos h15] at g
  have k' := is.mp k
  rw [e_fnd1 k, ob_some, if_neg n10] at e
  rw [if_pos k', y_can1 h15 (by rw [k']; exact h6), ob_some, if_neg n10] at g
  obtain ⟨p, ep, e⟩ := hf_bind e
  obtain ⟨w, gw, g⟩ := hf_bind g
  obtain ⟨q, gq, gw⟩ := hf_bind gw
  obtain ⟨a1, -⟩ := h.adv hN (fun z => h0 (k.symm.trans z)) ep gq
  rw [if_pos a1.1.2.1] at gw
  cases gw
  have g2 : (if (RS.setI q 19 (q.i 19 - 1)).i 15 = 0 then some ((1 : Int32), RS.setI q 19 (q.i 19 - 1)) else some (0, RS.setI q 19 (q.i 19 - 1))) = some V := (if_neg n10).symm.trans g
  rw [if_pos (show (RS.setI q 19 (q.i 19 - 1)).i 15 = 0 from a1.1.2.1)] at g2
  cases e
  cases g2
  exact ⟨p, q, ep, gq, a1, rfl, rfl, rfl⟩
end
section
/-! both readers: a block's end -/
theorem vaI_comm {f : Nat → Int32} {j k : Nat} {v w : Int32} (h : j ≠ k) : va_up (va_up f j v) k w = va_up (va_up f k w) j v := by
  funext i
  show (if i = k then w else if i = j then v else f i) = (if i = j then v else if i = k then w else f i)
  by_cases a : i = k
  · rw [if_pos a, if_neg (fun b => h (b.symm.trans a)), if_pos a]
  · rw [if_neg a, if_neg a]
theorem rsI_comm {r : RS} {j k : Nat} {v w : Int32} (h : j ≠ k) : RS.setI (RS.setI r j v) k w = RS.setI (RS.setI r k w) j v := congrArg (fun f => ((f, r.l, r.a, r.b) : RS)) (vaI_comm (f := r.i) h)
theorem csI_comm {s : CS} {j k : Nat} {v w : Int32} (h : j ≠ k) : CS.setI (CS.setI s j v) k w = CS.setI (CS.setI s k w) j v := congrArg (fun f => (some (s.hs, f, s.l, s.a, s.b, s.r, s.w, s.L, s.k, s.o, s.ol, s.ot, s.oa) : CS)) (vaI_comm (f := s.i) h)
theorem sub19 {d : Int32} {S : CS} {s : RS} (h : ENV d S s) : (s.i 19 - 1).toInt = (s.i 19).toInt - 1 := by
  have e1 : (1 : Int32).toInt = 1 := by decide
  have z := h.2.2.1.2.1
  have hi := Int32.toInt_lt (s.i 19)
  rw [toInt_sub] <;> rw [e1] <;> omega
/-- one sign less, in both -/
theorem COR.s19 {d : Int32} {B : CS} {b : RS} {t0 T : Nat} {L : List CEL} {x : Int} {X : CS} {V : RS} {v w w0 w1 : Int32} (h : COR d B (RS.setI b 19 w0) t0 L x X V) (hin : INL X V T L) (hT : t0 ≤ T) (ev : ENV d (CS.setI X 34 v) (RS.setI V 19 w)) (hw : w.toInt = (V.i 19).toInt - 1) (hb : w0.toInt = w1.toInt + 1) : COR d B (RS.setI b 19 w1) t0 L x (CS.setI X 34 v) (RS.setI V 19 w) := by
  obtain ⟨h1, h2, h3, h4, h5, ⟨h6, h7, h8, h9⟩, ⟨h10, h11, h12, hsg⟩, h13, ⟨h14, h15, h16⟩, h17, ⟨h18, h19, h20, col, h21⟩⟩ := h
  have hsg' : (V.i 19).toInt = w0.toInt + SSM X L := hsg
  have ck : CKZ X (CS.setI X 34 v) := CKZ.rf X
  have f : FRB T V (RS.setI V 19 w) := FRB.rf T V
  have tb : TBR V (RS.setI V 19 w) := (TBK.rf V).1.r
  have cd : CDK (V.i 20).toInt V (RS.setI V 19 w) := (TBK.rf V).2
  have sj := h1.sj
  have eo : ∀ c ∈ L, (CS.setI X 34 v).o c.2.1 = X.o c.2.1 := fun _ _ => rfl
  obtain ⟨d1, d2⟩ := DSM.eq L eo
  have st : STK (CS.setI X 34 v) (RS.setI V 19 w) L (X.i 22).toInt (V.i 24).toInt (V.i 33).toInt := STK.mv ck f tb cd L _ _ _ h2 hin (Int.le_refl _) (Int.le_refl _) (Int.le_refl _)
  have jq := h3.mv h18 sj.1 hin ck f tb
  have lb : LBC (CS.setI X 34 v) (RS.setI V 19 w) L x := LBC.mv L x h4 eo (fun _ _ _ => rfl)
  have cb : CBB B (CS.setI X 34 v) := h5
  have ph : phI b + PDM (CS.setI X 34 v) L ≤ phI V := by rw [d2]; exact h11
  have ds : (X.i 38).toInt = (B.i 38).toInt + DSM (CS.setI X 34 v) L := by rw [d1]; exact h13.1
  have sg : w.toInt = w1.toInt + SSM (CS.setI X 34 v) L := by rw [SSM.eo L eo]; omega
  have ob := h13.2.mv (R := CS.setI X 34 v) (u := RS.setI V 19 w) eo rfl (Int.le_refl _) (fun _ _ => ⟨rfl, rfl⟩)
  have cl := h21.mv h20 hin ck f tb cd
  exact ⟨ev, st, jq, lb, cb, ⟨h6, h7, h8, h9⟩, ⟨h10, ph, h12, sg⟩, ⟨ds, ob⟩, ⟨h14, h15, h16⟩, h17, ⟨h18, h19, h20, col, cl⟩⟩
theorem rsI_2 {r : RS} {k : Nat} {v w : Int32} : RS.setI (RS.setI r k v) k w = RS.setI r k w := by
  have e : va_up (va_up r.i k v) k w = va_up r.i k w := by
    funext j
    show (if j = k then w else if j = k then v else r.i j) = (if j = k then w else r.i j)
    by_cases z : j = k
    · rw [if_pos z, if_pos z]
    · rw [if_neg z, if_neg z, if_neg z]
  show ((va_up (va_up r.i k v) k w, r.l, r.a, r.b) : RS) = (va_up r.i k w, r.l, r.a, r.b)
  rw [e]
theorem POPD.sg {d : Int32} {B : CS} {b : RS} {t0 : Nat} {c : CEL} {L : List CEL} {X : CS} {V : RS} {v w w0 : Int32} (h : POPD d B (RS.setI b 19 w0) t0 c L X V) (hT : t0 ≤ ceT c + wid (X.o c.2.1 0)) (ev : ENV d (CS.setI X 34 v) (RS.setI V 19 w)) (hw : w.toInt = (V.i 19).toInt - 1) (hb : w0.toInt = (b.i 19).toInt + 1) : POPD d B b t0 c L (CS.setI X 34 v) (RS.setI V 19 w) := by
  have z := h.1.s19 (w1 := b.i 19) (h.1.inl h.2.1 rfl) hT ev hw hb
  rw [rsI_id rfl] at z
  exact ⟨z, h.2.1, h.2.2⟩
/-- the base's signs and one more -/
theorem b19_up {d : Int32} {B : CS} {b : RS} {t0 : Nat} {L : List CEL} {x : Int} {S : CS} {s : RS} (h : COR d B b t0 L x S s) : ∃ w : Int32, w.toInt = (b.i 19).toInt + 1 := by
  have z1 := h.2.2.2.2.2.2.1.2.2.2
  have z2 := h.1.2.2.1.2.2
  have z3 := (SSM.ge S L)
  have e1 : (1 : Int32).toInt = 1 := by decide
  have lo := Int32.le_toInt (b.i 19)
  refine ⟨b.i 19 + 1, ?_⟩
  rw [toInt_add] <;> rw [e1] <;> omega
set_option maxHeartbeats 2000000 in
theorem en_block {N : Nat} (hN : 1000 ≤ N) {d : Int32} {B : CS} {b : RS} {t0 n : Nat} {L : List CEL} {x : Int} {S : CS} {s U : RS} {c1 c : CEL} {R : Unit × CS} {Aj : JBA} (mA : JBM U Aj) (hC : COR d B b t0 (c1 :: c :: L) x S s) (tp : TOP S s c1) (hM : MLI c1 S s) (h36 : S.i 36 = 0 ∨ S.i 36 = 1) (h301 : S.o c1.2.1 0 = 301) (k125 : S.i 43 = 125) (bz : BAZ B b (c1 :: c :: L)) (hT : t0 ≤ ceT c1) (e : f_X7_endList N S c1.2.1 = some R) (g : f_X12_parse_10 N n s = some U) : ∃ (m : Nat) (u : RS), f_X12_parse_10 N m u = some U ∧ POPD d B b t0 c L R.2 u ∧ JTR Aj U B b (c1 :: c :: L) S s (vws R.2 u (c :: L)) R.2 u := by
  obtain ⟨no1, n305, ts, h64, hmode, -⟩ := hM
  have wd : wid (S.o c1.2.1 0) = 2 := by rw [h301]; rfl
  have ix : ceT c1 + wid (S.o c1.2.1 0) - 1 = ceT c1 + 1 := by omega
  rw [ix] at h64 hmode
  have ts' : tpI s = ((ceT c1 + 1 : Nat) : Int) := by rw [ts, wd]; omega
  have hv := hC.1
  have k10 := (tk_is hv (a := 125) (b := 125) (Or.inl ⟨by decide, by decide⟩) (by decide)).mp k125
  obtain ⟨m1, e1, k1, m2, e2, k2, cst⟩ := STK.mem _ _ _ _ hC.2.1 c1 List.mem_cons_self
  obtain ⟨⟨f1, f2, f3⟩, f4⟩ := cst.2.2.1.2.1 h301
  obtain ⟨m0, V0, g0, n1, n2, n3, n4, n5, n6, n7, n8, n9, n10'⟩ := y_lend hv ts' h64 hmode h36 (Or.inl k10) g
  have fT := n3 (ceT c1) (by omega)
  have tV : tpI V0 = (ceT c1 : Int) := by rw [n2]; omega
  -- the row goes
  have ngo : ¬ isGo (S.o c1.2.1 0) := by rw [h301]; unfold isGo; decide
  obtain ⟨w0, hw0⟩ := b19_up hC
  obtain ⟨hD, inj, ord, lk, lw⟩ := hC.dropW (by rw [h301]; unfold isTy; decide) (by rw [h301]; decide) (by rw [h301]; rfl) (w := w0) (by rw [h301]; show _ = _ + ((1 : Nat) : Int); omega)
  have hinD : INL S s (ceT c1) (c :: L) := by
    have z := STK.inl L c _ _ _ hD.2.1 (by have := tp.1; have := lk.1; omega) (by have := tp.2.1; have := lk.2.2.1; omega) (by have := tp.2.2; have := lk.2.2.2.1; omega)
    rw [← lk.2.1] at z
    exact z
  have fr0 : FRB (ceT c1) s V0 := n3.mo (by omega)
  have hD0 := hD.mv3 hinD hT n1 fr0 n4 ⟨by rw [n8]; exact Int.le_refl _, by rw [n6]; exact hD.2.2.2.2.2.2.1.2.1, by rw [n9]; exact Int.le_refl _, by rw [n10'.1]⟩
  obtain ⟨t1, t2, t3, t4, t5, t6, t7, t8, t9, t10⟩ := n4.1.1
  have hin0 : INL S V0 (ceT c1) (c :: L) := hinD.mv (CKZ.rf S) rfl t5 t7
  -- the reference
  obtain ⟨m2, V, hV, g2⟩ := rl_3 g0 tV n1.1.2.1 (fT.1.trans f1)
  unfold f_X12_block at hV
  obtain ⟨hib, hV⟩ := hf_ite hV
  have tt : ceT c1 < 1000 := by
    have h2 : (V0.i 63).toInt = (ceT c1 : Int) := tV
    have := hib.2
    omega
  rw [tp_nat tV, if_neg (show ¬ V0.a 65 (ceT c1) = 0 by rw [fT.2.1, f2]; decide)] at hV
  obtain ⟨p3, hsh, hV⟩ := hf_bind hV
  -- the class
  unfold f_X7_endList at e
  obtain ⟨-, e⟩ := hf_ite e
  rw [if_neg (by rw [h301]; decide), if_neg (by rw [h301]; decide)] at e
  unfold f_X7_endList_72 at e
  obtain ⟨p4, e4, e⟩ := hf_bind e
  obtain ⟨A, q, eA, hq, evA, R4, V4, -⟩ := y_clsA hN n1 (c := 125) (d := 125) (Or.inl ⟨by decide, by decide⟩) (by decide) (by decide) (by decide) k125 e4 hsh
  obtain ⟨-, a2, a3, a4, a5, a6, a7, a8, a9, a10⟩ := n1.adv hN (by rw [k125]; decide) eA hq
  have ck := CKX.of a3 a8 a9
  have tk := TBK.of a2 (by rw [a6]; exact Int.le_refl _) (fun j _ => by rw [a7])
  have q17 : (q.i 17).toInt = (V0.i 17).toInt + 1 := by rw [a4, t17_up (N := N) n1]
  obtain ⟨u1, u2, u3, u4, u5, u6, u7, u8, u9, u10⟩ := tk.1.1
  have nn8 := hD0.2.2.2.2.2.2.2.2.1.2.1
  have hD1 := hD0.mv hin0 hT evA (FRB.of a2) tk.1.r tk.2 ⟨u1, u2, u3, u5, u6, u7, u8, u9, u10⟩ ck.z ⟨ck.1.2.2.1, ck.1.2.2.2.2.1, ck.1.2.2.2.2.2⟩ ck.2.2.2.2.2.2.2.2 ⟨by omega, by unfold phI; rw [a6, q17]; omega, by omega, by rw [a10]⟩ (by rw [u4]; omega) (by rw [u4]; exact Int.le_refl _)
  have hinC := hC.inl tp (T := ceT c1 + wid (S.o c1.2.1 0)) rfl
  have eo : ∀ z ∈ c1 :: c :: L, A.2.o z.2.1 = S.o z.2.1 := fun z hz => (hinC.o ck.z z hz).1
  have eo1 := eo c1 List.mem_cons_self
  have eoc := eo c (List.mem_cons_of_mem _ List.mem_cons_self)
  obtain ⟨-, e⟩ := hf_ite e
  have o4 : ∀ w : Int32, (CS.setI p4.2 50 w).o c1.2.1 0 = 301 := fun w => by
    show p4.2.o c1.2.1 0 = 301
    rw [R4]
    show A.2.o c1.2.1 0 = 301
    rw [eo1]
    exact h301
  rw [if_neg (by rw [o4]; decide), if_neg (by rw [o4]; decide), if_neg (by rw [o4]; decide), if_neg (by rw [o4]; decide), if_neg (by rw [o4]; decide), if_neg (by rw [o4]; decide), if_neg (by rw [o4]; decide)] at e
  have ep := ob_un e
  have o3 : p4.2.o c1.2.1 3 = A.2.o c1.2.1 3 := by rw [R4]; rfl
  have i53 : (CS.setI p4.2 50 (p4.2.o c1.2.1 3)).i 53 = A.2.i 53 := by
    rw [ci_ne _ _ _ (by decide), R4, ci_ne _ _ _ (by decide)]
  have A53 : A.2.i 53 = S.i 53 := ck.1.2.2.2.2.1
  obtain ⟨p1', p2'⟩ := e_pop (n := c.1) (by rw [i53, A53]; have := tp.1; have := lk.1; omega) ep
  rw [i53] at p1' p2'
  rw [o3, R4, csI_comm (s := A.2) (j := 34) (k := 50) (by decide), csI_comm (j := 34) (k := 53) (by decide)] at p1'
  -- the reference's last state
  have hVe : V = RS.setI (RS.setI (RS.setI q 38 (q.a 66 (ceT c1))) 63 (q.i 63 - 1)) 19 (q.i 19 - 1) := by
    rw [V4] at hV
    have z := Option.some.inj hV
    rw [← z, rsI_comm (r := RS.setI q 38 (q.a 66 (ceT c1))) (by decide), rsI_comm (r := q) (j := 38) (by decide)]
    rfl
  have q66 : q.a 66 (ceT c1) = A.2.o c1.2.1 3 := by
    rw [((FRB.of a2 : FRB (ceT c1 + 1) V0 q) (ceT c1) (by omega)).2.2.1, fT.2.2.1, f4, eo1]
  have q75 : q.i 75 = S.i 36 := by
    rw [(qj_eq a2).2.2.2.2.2.2.2.2.2.2.2.2.2.2.2.2.2.1]
    exact n5
  have ho : f_X12_over N (RS.setI q 38 (q.a 66 (ceT c1))) (S.i 36) = some (RS.setI (RS.setI q 38 (q.a 66 (ceT c1))) 63 (q.i 63 - 1)) := by
    unfold f_X12_over
    rw [if_pos h36, rsI_id (show (RS.setI q 38 (q.a 66 (ceT c1))).i 75 = S.i 36 from q75)]
    rfl
  have tpA : TOP A.2 q c1 := ⟨by rw [A53]; exact tp.1, by rw [u5, t5, eo1]; exact tp.2.1, by rw [u7, t7, eo1]; exact tp.2.2⟩
  have lkA : LNK A.2 c1 c := by
    unfold LNK at *
    rw [eo1, eoc]
    exact lk
  have lwA : LOW A.2 q c := by
    have w := (lw.mv (rfl : S.o c.2.1 = S.o c.2.1) fr0 (by rw [lk.2.1]; exact Nat.le_refl _)).mv (rfl : S.o c.2.1 = S.o c.2.1) (FRB.of a2 : FRB (ceT c1) V0 q) (by rw [lk.2.1]; exact Nat.le_refl _)
    unfold LOW at *
    rw [eoc]
    exact w
  have ob := hC.2.2.2.2.2.2.2.1.2
  have i50 : A.2.i 50 = S.i 50 := ck.1.2.2.2.1
  have A36 : A.2.i 36 = S.i 36 := ck.1.2.1
  have pc := (pop_core (X := CS.setI (CS.setI A.2 50 (A.2.o c1.2.1 3)) 53 (A.2.i 53 - 1)) hD1 tpA lkA lwA (BAZ.b19 _ bz) hT tt (qj_63 a2 tV) (by rw [eo1, h301]; rfl) (fun z => by rw [eo1] at z; exact absurd z ngo) h36 ho ⟨fun k h1 _ _ => if_neg h1, rfl, rfl, rfl⟩ q66 (by rw [eo1, nGo.eq ngo]; show (q.i 43).toInt = _; omega) (by rw [eo1, i50]; exact ob.1 c1 List.mem_cons_self) (fun z hz => by rw [eo1, eo z (List.mem_cons_of_mem _ hz)]; exact ob.2.1 z (List.mem_cons_of_mem _ hz) c1 List.mem_cons_self (ord z hz)) (fun k _ h2 h3 => by rw [ci_ne _ _ _ h3, ci_ne _ _ _ h2]) (by rw [ci_ne _ _ _ (by decide), ci_at]) (by rw [ci_at]; exact p2') (by rw [ci_ne _ _ _ (by decide), ci_ne _ _ _ (by decide)]; exact A36) ⟨rfl, rfl, rfl, rfl, rfl, rfl, rfl, rfl, rfl⟩).1
  -- one sign less
  have rw8 := evA.ri.2.2.2.2.2.2
  have nrA := evA.ri.2.2.2.1.2
  have cn : cnI A.2 = (c1.1 : Int) + 1 := by
    show (A.2.i 53).toInt = _
    rw [A53]
    exact tp.1
  have tn : (cnI A.2).toNat = c1.1 + 1 := by omega
  rw [tn] at rw8 nrA
  have sg1 : sgn A.2 (rowA A.2 c1.1) = 1 := by
    have ra : rowA A.2 c1.1 = c1.2.1 := by
      unfold rowA
      rw [ck.z.2.1 c1.1 (by have := tp.1; omega), cst.1]
      rfl
    rw [ra]
    unfold sgn
    rw [eo1, h301, if_neg (by decide), if_pos (Or.inl rfl)]
  have e2' : SGS A.2 (c1.1 + 1) = SGS A.2 c1.1 + sgn A.2 (rowA A.2 c1.1) := rfl
  have sg0 := (BAS (s := A.2) c1.1).2.2.2.1
  have o34 := evA.2.2.1
  have s34 : sgI A.2 = (q.i 19).toInt := by
    unfold sgI
    rw [o34.1]
  have s19 : (q.i 19 - 1).toInt = (q.i 19).toInt - 1 := by
    have e1 : (1 : Int32).toInt = 1 := by decide
    rw [toInt_sub] <;> rw [e1] <;> omega
  have xs : SGS (CS.setI (CS.setI A.2 50 (A.2.o c1.2.1 3)) 53 (A.2.i 53 - 1)) c1.1 = SGS A.2 c1.1 := by
    have rs : RSQ A.2 (CS.setI (CS.setI A.2 50 (A.2.o c1.2.1 3)) 53 (A.2.i 53 - 1)) c1.1 := fun i _ => ⟨rfl, fun a _ => ⟨rfl, rfl⟩⟩
    exact (rs.sums (fun i hi => nrA i (by omega))).2.1
  have ev := pc.1.1.sg (v := A.2.i 34 - 1) (w := q.i 19 - 1) (by rw [o34.1]) (by omega) (by have := o34.2.2; omega) (by
    have cx : (cnI (CS.setI (CS.setI A.2 50 (A.2.o c1.2.1 3)) 53 (A.2.i 53 - 1))).toNat = c1.1 := by
      have z : cnI (CS.setI (CS.setI A.2 50 (A.2.o c1.2.1 3)) 53 (A.2.i 53 - 1)) = (A.2.i 53 - 1).toInt := rfl
      rw [z, p2']
      have := lk.1
      omega
    rw [cx, xs, o34.1, s19]
    omega)
  refine ⟨m2, V, g2, ?_, fun _ jw => ?_⟩
  · rw [hVe, p1']
    exact pc.sg (by show t0 ≤ ceT c + wid (A.2.o c.2.1 0); rw [eoc, ← lk.2.1]; exact hT) ev s19 hw0
  -- the code
  have hr0 : (vw S s c1).v = 301 := h301
  have ngV : ¬ isGo (vw S s c1).v := ngo
  have nlo : ¬ isLo (vw S s c1).v := fun z => ngV (Or.inr (Or.inr z))
  have nty : ¬ isTy (vw S s c1).v := fun z => by
    rw [hr0] at z
    rcases z with z | z | z | z <;> exact absurd z (by decide)
  have nsi : ∀ k : Nat, ¬ rsite (vw S s c1) k := fun k z => by
    unfold rsite at z
    rw [hr0] at z
    rcases z with ⟨z, -⟩ | ⟨z, -⟩ | ⟨z, -⟩ | ⟨z, -⟩ <;> exact absurd z (by decide)
  have gis := hC.gis
  have h44 : (S.i 44).toInt ≤ 900 := by
    rw [hv.p44.1]
    exact (i11_hi hv).2
  obtain ⟨ee, he1, he2⟩ := clo_e (S.i 43)
  have rt : tvs (rtgs (vw S s c1)) = [] := by
    unfold rtgs
    rw [hr0, if_neg (by decide), if_neg (by decide), if_neg (by decide), if_neg (by decide), if_neg (by decide)]
    rfl
  obtain ⟨w, hw⟩ : ∃ w, w = q.i 19 - 1 := ⟨_, rfl⟩
  have q19 : q.i 19 = s.i 19 := a10.trans n10'.1
  have w19 : (b.i 19).toInt + (sfr (vws S s (c :: L)) : Int) ≤ w.toInt := by
    have z1 := hC.2.2.2.2.2.2.1.2.2.2
    have z2 : SSM S (c1 :: c :: L) = (nSg (S.o c1.2.1 0) : Int) + SSM S (c :: L) := rfl
    have z3 : nSg (S.o c1.2.1 0) = 1 := by rw [h301]; rfl
    have z4 := sfr_ss (S := S) (s := s) (c :: L)
    rw [hw, s19, q19]
    omega
  have j0 := JRW.clo (V := vws S s (c :: L)) (r := vw S s c1) (u := s) (u' := RS.setI s 19 w) (S' := S) (l1 := []) (l2 := []) (vb := 0) (vc := 0) (vs := 0) (e := ee) (dr := 0) jw (fun z => z.c0 (by rw [hr0]; decide) (NK.eq rfl rfl rfl rfl)) h44 mA (vws.pl hC) (fun z => absurd z ngV) nty (by rw [hr0]; decide) (fun z => absurd z ngV) ⟨rfl, fun _ _ => rfl⟩ (fun z => absurd z ngV) (fun z => absurd z nlo) (fun j z => absurd z (nsi j)) (fun _ _ _ _ => rfl) (D38.rf _) ⟨⟨rfl, rfl, rfl, rfl, rfl⟩, rfl, rfl, rfl, rfl, rfl, rfl, rfl, rfl, rfl, rfl, rfl, rfl, rfl, rfl⟩ ⟨Or.inr w19, rfl, rfl, rfl⟩ (fun _ _ _ => rfl) (fun nm G ω j ng hcx => by
    rw [jen.no (by rw [hr0]; decide) nty (by rw [hr0]; decide)] at ng hcx
    exact ⟨ng.h, hcx⟩) (fun _ => dbr.ge _ _) he1
  rw [rt] at j0
  have vi := n10'.2.2.1
  have vaa := n10'.2.2.2.1
  have qV0 : qe V0 = qe (RS.setI s 19 w) := by
    unfold qe
    rw [vi 20 (by decide) (by decide), vi 24 (by decide) (by decide), vi 29 (by decide) (by decide), vi 33 (by decide) (by decide), vi 42 (by decide) (by decide), vi 52 (by decide) (by decide), vaa 21 (by decide), vaa 22 (by decide), vaa 23 (by decide), vaa 25 (by decide), vaa 26 (by decide), vaa 27 (by decide), vaa 28 (by decide), vaa 30 (by decide), vaa 31 (by decide), vaa 32 (by decide), vaa 34 (by decide), vaa 35 (by decide), vaa 36 (by decide), vaa 37 (by decide)]
    rfl
  have j1 := j0.se (u := V0) qV0 ⟨vi 38 (by decide) (by decide), fun j _ => by rw [vaa 40 (by decide)]; rfl⟩
  have j2 := j1.adv hN n1 (by rw [k125]; decide) eA hq
  have qq := kre_f_X12_next N V0 q hq
  have prq : pcR q = pcR s := (pcR.qe qq).trans (pcR.qe qV0)
  have pcA : pcC A.2 = pcC S := pcC.pe (ke_X9_advance N S A eA)
  obtain ⟨-, -, -, -, -, -, -, y38, -, y43, -, -, -, -, -, y59, -, -, -, -, -, -, -, -, -, -, -, -, -, -, -, z47, z48, z49, z50, z51, -, -, z60, z61, z62, -⟩ := qj_eq a2
  have q0i : q.i 59 = s.i 59 ∧ q.i 43 = s.i 43 ∧ q.i 38 = s.i 38 := ⟨y59.trans (vi 59 (by decide) (by decide)), y43.trans (vi 43 (by decide) (by decide)), y38.trans (vi 38 (by decide) (by decide))⟩
  have jr := j2.popv (R := R.2) (V := V) (v := S.i 36) (by omega) (Or.inl (by rcases he1 with z | ⟨z, -⟩ <;> omega)) (by rw [p1']; rfl) (by rw [p1']; rfl) (by rw [p1']; rfl) (by rw [p1']; exact A36) (by rw [p1']; rfl) (by rw [p1']; rfl) (by rw [hVe]; rfl) (by
    rw [hVe]
    show (q.a 66 (ceT c1)).toInt ≤ (q.i 38).toInt
    rw [q66, eo1, q0i.2.2, ← hv.2.1.1]
    exact (ob.1 c1 List.mem_cons_self).2) (by rw [hVe]; rfl) (fun y hy gy => by
    have := gis y hy gy
    have := tp.2.1
    rw [hVe]
    show ((y.2.2.2 : Nat) : Int) < (q.i 43).toInt
    rw [q0i.2.1]
    omega) (by
    rw [hVe]
    exact ⟨z47.trans (vaa 47 (by decide)), z48.trans (vaa 48 (by decide)), z49.trans (vaa 49 (by decide)), z50.trans (vaa 50 (by decide)), z51.trans (vaa 51 (by decide)), z60.trans (vaa 60 (by decide)), z61.trans (vaa 61 (by decide)), z62.trans (vaa 62 (by decide))⟩) (by rw [hVe]; exact q0i.1) (by rw [hVe]; show (s.i 11).toInt ≤ (q.i 11).toInt; rw [n8] at a5; omega) (by rw [hVe, hw]; exact Int.le_refl _) (fun FC SF nm X ω j Z hω r12 hcc k cur => by
    obtain ⟨-, G', -, -, hX⟩ := k
    have en : ∀ (h l : Nat), jen G' ω (vw S s c1) h l = [] := fun h l => jen.no (by rw [hr0]; decide) nty (by rw [hr0]; decide)
    rw [pcA, prq] at cur
    refine hX ⟨fun z => absurd (hr0.symm.trans z) (by decide), fun z => absurd (hr0.symm.trans z) (by decide), fun z => absurd (hr0.symm.trans z) (by decide), fun z => absurd (hr0.symm.trans z) (by decide), fun z => absurd (hr0.symm.trans z) (by decide), fun z => absurd (hr0.symm.trans z) (by decide), fun z => absurd (hr0.symm.trans z) (by decide), fun z => absurd z nty, fun z => absurd z ngV⟩ (fun z => absurd z ngV) (fun h1 => ?_)
    have jl : jlv (vw S s c1).v = 0 := by rw [hr0]; rfl
    rw [en, jl]
    exact cur h1)
  rw [clo_veq hD tp lk (fun j hj => by
    rw [hVe]
    exact (NMV.tr (s := s) ⟨vi 38 (by decide) (by decide), fun j _ => by rw [vaa 40 (by decide)]⟩ (NMV.tbk tk)).2 j hj) (fun y hy => by rw [p1']; exact eo y (List.mem_cons_of_mem _ hy)) (fun k t h1 h2 h3 => by
    rw [hVe]
    show q.a k t = s.a k t
    rw [(FRB.of a2 : FRB (ceT c1) V0 q).fld k t h1 h2 h3]
    exact fr0.fld k t h1 h2 h3)]
  exact jr
end
section
/-! both readers: the text ends inside a block -/
theorem e72_flt {N a : Nat} {S : CS} {R : Unit × CS} (k : ¬ S.i 43 = 125) (e : f_X7_endList_72 N S a = some R) : ¬ R.2.i 32 = 0 := by
  unfold f_X7_endList_72 at e
  obtain ⟨p4, e4, e⟩ := hf_bind e
  have z4 : ¬ p4.2.i 32 = 0 := by
    unfold f_X1_close f_X1_close_22 at e4
    rw [e_fnd0 k, ob_some, if_pos rfl] at e4
    obtain ⟨p, ep, e4⟩ := hf_bind e4
    rw [← Option.some.inj e4]
    exact (show ¬ p.2.i 32 = 0 from y_misp ep)
  obtain ⟨-, e⟩ := hf_ite e
  obtain ⟨X, hX⟩ : ∃ X, X = CS.setI p4.2 50 (p4.2.o a 3) := ⟨_, rfl⟩
  have zX : ¬ X.i 32 = 0 := by
    rw [hX]
    exact z4
  rw [← hX] at e
  clear hX
  by_cases c1 : X.o a 0 = 212
  · rw [if_pos c1] at e
    rw [kF_X7_endLock N X a R (ob_un e) zX]
    exact zX
  rw [if_neg c1] at e
  by_cases c2 : X.o a 0 = 213
  · rw [if_pos c2] at e
    rw [kF_X7_endGuarded N X a R (ob_un e) zX]
    exact zX
  rw [if_neg c2] at e
  by_cases c3 : X.o a 0 = 214
  · rw [if_pos c3] at e
    rw [kF_X6_pop N X R (ob_un e) zX]
    exact zX
  rw [if_neg c3] at e
  by_cases c4 : X.o a 0 = 215
  · rw [if_pos c4] at e
    rw [kF_X7_endGuarded N X a R (ob_un e) zX]
    exact zX
  rw [if_neg c4] at e
  by_cases c5 : X.o a 0 = 216
  · rw [if_pos c5] at e
    rw [kF_X7_endFinally N X a R (ob_un e) zX]
    exact zX
  rw [if_neg c5] at e
  by_cases c6 : X.o a 0 = 217
  · rw [if_pos c6] at e
    rw [kF_X6_pop N X R (ob_un e) zX]
    exact zX
  rw [if_neg c6] at e
  by_cases c7 : X.o a 0 = 218
  · rw [if_pos c7] at e
    rw [kF_X7_endSwitch N X a R (ob_un e) zX]
    exact zX
  rw [if_neg c7] at e
  rw [kF_X6_pop N X R (ob_un e) zX]
  exact zX
/-- the reference: BLOCK wants its sign -/
theorem bl_flt {N : Nat} {d : Int32} {S : CS} {s U : RS} {n t : Nat} (hv : ENV d S s) (ht : tpI s = (t : Int)) (h64 : s.a 64 t = 3) (h65 : s.a 65 t = 1) (k : ¬ S.i 43 = 125) (g : f_X12_parse_10 N n s = some U) : ¬ U.i 15 = 0 := by
  have is := tk_is hv (a := 125) (b := 125) (Or.inl ⟨by decide, by decide⟩) (by decide)
  have k' : ¬ s.i 10 = 125 := fun q => k (is.mpr q)
  have h15 := hv.1.2.1
  obtain ⟨m2, V, hV, g2⟩ := rl_3 g ht h15 h64
  unfold f_X12_block at hV
  obtain ⟨-, hV⟩ := hf_ite hV
  rw [tp_nat ht, if_neg (by rw [h65]; decide)] at hV
  obtain ⟨p3, hsh, hV⟩ := hf_bind hV
  have z3 : ¬ p3.2.i 15 = 0 := by
    unfold f_X12_shut f_X12_shut_18 f_X12_need f_X12_need_27 f_X12_need_31 at hsh
    rw [if_pos h15, if_neg k'] at hsh
    obtain ⟨w, gw, hsh⟩ := hf_bind hsh
    obtain ⟨q, gq, gw⟩ := hf_bind gw
    obtain ⟨q1, q2⟩ := y_can0 gq
    rw [if_pos q1, if_neg q2] at gw
    cases gw
    have g2 : (if q.2.i 15 = 0 then some ((1 : Int32), q.2) else some (0, q.2)) = some p3 := (if_pos rfl).symm.trans hsh
    rw [if_neg q2] at g2
    rw [← Option.some.inj g2]
    exact q2
  refine u_flt g2 ?_
  rw [← Option.some.inj hV]
  exact z3
/-- both fault -/
theorem en_blkF {N : Nat} {d : Int32} {B : CS} {b : RS} {t0 n : Nat} {L : List CEL} {x : Int} {S : CS} {s U : RS} {c1 : CEL} {R : Unit × CS} (hC : COR d B b t0 (c1 :: L) x S s) (hM : MLI c1 S s) (h36 : S.i 36 = 0 ∨ S.i 36 = 1) (h301 : S.o c1.2.1 0 = 301) (k0 : S.i 43 = 0) (e : f_X7_endList N S c1.2.1 = some R) (g : f_X12_parse_10 N n s = some U) : ¬ R.2.i 32 = 0 ∧ ¬ U.i 15 = 0 := by
  obtain ⟨no1, n305, ts, h64, hmode, -⟩ := hM
  have wd : wid (S.o c1.2.1 0) = 2 := by rw [h301]; rfl
  have ix : ceT c1 + wid (S.o c1.2.1 0) - 1 = ceT c1 + 1 := by omega
  rw [ix] at h64 hmode
  have ts' : tpI s = ((ceT c1 + 1 : Nat) : Int) := by rw [ts, wd]; omega
  have hv := hC.1
  have k10 := (tk_is hv (a := 0) (b := 0) (Or.inl ⟨by decide, by decide⟩) (by decide)).mp k0
  obtain ⟨m1, e1, k1, m2, e2, k2, cst⟩ := STK.mem _ _ _ _ hC.2.1 c1 List.mem_cons_self
  obtain ⟨⟨f1, f2, f3⟩, f4⟩ := cst.2.2.1.2.1 h301
  have n125 : ¬ S.i 43 = 125 := by rw [k0]; decide
  obtain ⟨m0, V0, g0, n1, n2, n3, -⟩ := y_lend hv ts' h64 hmode h36 (Or.inr (Or.inr (Or.inr k10))) g
  have fT := n3 (ceT c1) (by omega)
  refine ⟨?_, bl_flt n1 (by rw [n2]; omega) (fT.1.trans f1) (fT.2.1.trans f2) n125 g0⟩
  unfold f_X7_endList at e
  obtain ⟨-, e⟩ := hf_ite e
  rw [if_neg (by rw [h301]; decide), if_neg (by rw [h301]; decide)] at e
  exact e72_flt n125 e
end
section
/-! both readers: the row on top changes its sort -/
theorem RWI.srt {S R : CS} {n a : Nat} (h : RWI S) (n4 : n < 400) (hn : cnI S = (n : Int) + 1) (ha : S.r 51 n = some a) (er : R.r = S.r) (eo : ∀ b : Nat, b ≠ a → R.o b = S.o b) (eol : R.ol = S.ol) (e53 : R.i 53 = S.i 53) (ehk : R.hs = S.hs ∧ R.L = S.L ∧ R.k = S.k) (p : ¬ S.o a 0 = 300 ∧ ¬ S.o a 0 = 301 ∧ ¬ S.o a 0 = 302 ∧ ¬ S.o a 0 = 303) (p' : ¬ R.o a 0 = 300 ∧ ¬ R.o a 0 = 301 ∧ ¬ R.o a 0 = 302 ∧ ¬ R.o a 0 = 303) (hs : SGS S n + sgn R a ≤ sgI R) (he : eI S ≤ eI R) : RWI R := by
  obtain ⟨h1, h2, h3, ⟨h4, h5⟩, h6, h7, h8⟩ := h
  have tn : (cnI S).toNat = n + 1 := by omega
  have ec : cnI R = cnI S := by
    unfold cnI
    rw [e53]
  rw [tn] at h5 h6 h7 h8
  have h5' : NR S n := fun i hi => h5 i (by omega)
  have rs : RSQ S R n := fun i hi => ⟨by rw [er], fun b hb => ⟨eo b (fun z => by
    rw [z] at hb
    have := h2 i n a (by omega) n4 hb ha
    omega), by rw [eol]⟩⟩
  have iq : IQ S n := fun m hm => h6 m (by omega)
  have ra : rowA S n = a := by
    unfold rowA
    rw [ha]
    rfl
  have e1 : WCS S (n + 1) = WCS S n + cost S (rowA S n) := rfl
  have c3 : cost S a = 3 := by
    unfold cost
    rw [if_neg (fun z => z.elim p.1 p.2.1), if_neg p.2.2.1, if_neg (fun z => p.2.2.2 z.1)]
  rw [ra, c3] at e1
  have haR : R.r 51 n = some a := by rw [er]; exact ha
  obtain ⟨q1, q2⟩ := iq.plain rs h5' haR ⟨p'.1, p'.2.1, p'.2.2.1, fun z => p'.2.2.2 z.1⟩
  have q3 := (rs.put h5' haR).2.1
  refine ⟨fun i b hi e => ?_, fun i j b hi hj e1 e2 => ?_, by rw [ehk.1, ehk.2.1]; exact h3, ⟨by omega, ?_⟩, ?_, ?_, ?_⟩
  · rw [er] at e
    have := h1 i b hi e
    unfold oK at *
    rw [ehk.2.1, ehk.2.2]
    exact this
  · rw [er] at e1 e2
    exact h2 i j b hi hj e1 e2
  · rw [ec, tn]
    exact fun i hi => by rw [er]; exact h5 i hi
  · rw [ec, tn]
    exact q1
  · rw [ec, tn, q2]
    omega
  · rw [ec, tn, q3]
    exact hs
theorem JMQ.chg {S R : CS} {s u : RS} {L : List CEL} {c1 : CEL} {B59 B29 : Int} (h : JMQ S s (c1 :: L) B59 B29) (hB : 0 ≤ B29) (eo : ∀ y ∈ L, R.o y.2.1 = S.o y.2.1) (e1 : R.o c1.2.1 1 = S.o c1.2.1 1) (e14 : R.o c1.2.1 14 = S.o c1.2.1 14) (e54 : R.i 54 = S.i 54) (e55 : R.i 55 = S.i 55) (e52 : R.a 52 = S.a 52) (g0 : ¬ isGo (S.o c1.2.1 0)) (g1 : ¬ isGo (R.o c1.2.1 0)) (ty : isTy (R.o c1.2.1 0) ↔ isTy (S.o c1.2.1 0)) (n216 : S.o c1.2.1 0 = 216 → R.o c1.2.1 0 = 216) (r216 : R.o c1.2.1 0 = 216 → (¬ S.o c1.2.1 0 = 216 ∧ R.o c1.2.1 15 = S.i 55) ∨ (S.o c1.2.1 0 = 216 ∧ R.o c1.2.1 15 = S.o c1.2.1 15)) (e66 : ∀ y ∈ c1 :: L, isTy (S.o y.2.1 0) → u.a 66 (ceT y) = s.a 66 (ceT y)) (efl : ∀ y ∈ L, isGo (S.o y.2.1 0) → ∀ b : Int, flg u (ceG y) b = flg s (ceG y) b) (tb : TBR s u) : JMQ R u (c1 :: L) B59 B29 := by
  obtain ⟨h1, h2, h3, h4, h5, h6, h7, h8⟩ := h
  have l59 := tb.2.2.2.1.1
  have n62 := tb.2.2.2.1.2
  have o59 := tb.2.2.2.2.1
  have em : (-1 : Int32).toInt = -1 := by decide
  have o1 : ∀ y ∈ c1 :: L, R.o y.2.1 1 = S.o y.2.1 1 ∧ R.o y.2.1 14 = S.o y.2.1 14 := fun y hy => by
    rcases List.mem_cons.mp hy with z | hy
    · rw [z]
      exact ⟨e1, e14⟩
    · rw [eo y hy]
      exact ⟨rfl, rfl⟩
  have gL : ∀ y ∈ c1 :: L, isGo (R.o y.2.1 0) → y ∈ L ∧ isGo (S.o y.2.1 0) := fun y hy g => by
    rcases List.mem_cons.mp hy with z | hy
    · rw [z] at g
      exact absurd g g1
    · rw [eo y hy] at g
      exact ⟨hy, g⟩
  have gR : ∀ y ∈ c1 :: L, isGo (S.o y.2.1 0) → isGo (R.o y.2.1 0) := fun y hy g => by
    rcases List.mem_cons.mp hy with z | hy
    · rw [z] at g
      exact absurd g g0
    · rw [eo y hy]
      exact g
  have tyQ : ∀ y ∈ c1 :: L, isTy (R.o y.2.1 0) ↔ isTy (S.o y.2.1 0) := fun y hy => by
    rcases List.mem_cons.mp hy with z | hy
    · rw [z]
      exact ty
    · rw [eo y hy]
  have rc : ∀ y ∈ c1 :: L, ∀ (b : Int) (i : Nat), RCD R y b i ↔ RCD S y b i := fun y hy b i => by
    unfold RCD
    rw [(o1 y hy).1, (o1 y hy).2, e55, e52]
  have inr1 : ∀ q ∈ c1 :: L, ∀ i : Nat, INR R q i → INR S q i := fun q hq i g => by
    rcases List.mem_cons.mp hq with z | hq2
    · rw [z] at g ⊢
      refine ⟨by have := g.1; rw [e14] at this; exact this, fun k => ?_⟩
      have k2 := n216 k
      rcases r216 k2 with w | w
      · exact absurd k w.1
      · rw [← w.2]
        exact g.2 k2
    · unfold INR at *
      rw [eo q hq2] at g
      exact g
  have inr2 : ∀ q ∈ c1 :: L, ∀ i : Nat, (i : Int) < (S.i 55).toInt → INR S q i → INR R q i := fun q hq i hi g => by
    rcases List.mem_cons.mp hq with z | hq2
    · rw [z] at g ⊢
      refine ⟨by rw [e14]; exact g.1, fun k => ?_⟩
      rcases r216 k with w | w
      · rw [w.2]
        exact hi
      · rw [w.2]
        exact g.2 w.1
    · unfold INR at *
      rw [eo q hq2]
      exact g
  have saf : ∀ n i : Nat, SAF S (c1 :: L) n i → SAF R (c1 :: L) n i := fun n i g q hq t l y => g q hq ((tyQ q hq).mp t) l (inr1 q hq i y)
  have pn : ∀ c q, q ∈ c1 :: L → isTy (S.o q.2.1 0) → ∀ (b : Int) (k : Nat), PND s c q b k → PND u c q b k := fun c q hq t b k g => by
    obtain ⟨g1, g2, g3, g4⟩ := g
    obtain ⟨y1, y2, y3⟩ := o59 k g1
    exact ⟨by omega, by rw [y1]; exact g2, by rw [y2]; exact g3, by rw [y3, e66 q hq t]; exact g4⟩
  refine ⟨fun c hc q b hb i r => ?_, fun c hc q b hb r => ?_, fun k hk q hq t r => ?_, fun k k1 k2 => ?_, fun q hq t => ?_, fun q hq p hp t1 t2 l => ?_, fun c hc => ?_, ⟨fun i hi hg9 => ?_, fun c hc q b => ?_⟩⟩
  · obtain ⟨hc2, q2⟩ := gL c hc q
    have r' := (rc c hc b i).mp r
    rcases h1 c hc q2 b hb i r' with z | ⟨k, p, hp, t, l, g, y⟩
    · exact Or.inl (by rw [efl c hc2 q2]; exact z)
    · exact Or.inr ⟨k, p, hp, (tyQ p hp).mpr t, l, pn c p hp t b k g, inr2 p hp i r'.1 y⟩
  · obtain ⟨hc2, q2⟩ := gL c hc q
    rw [efl c hc2 q2] at r
    obtain ⟨i, i1, i2, i3⟩ := h2 c hc q2 b hb r
    exact ⟨i, (rc c hc b i).mpr i1, by rw [(o1 c hc).2]; exact i2, saf _ _ i3⟩
  · have t' := (tyQ q hq).mp t
    rw [e66 q hq t'] at r
    by_cases z : (k : Int) < (s.i 59).toInt
    · rw [(o59 k z).2.2] at r
      obtain ⟨c, hc, g, l, b, hb, p, i, i1, i2, i3⟩ := h3 k z q hq t' r
      exact ⟨c, hc, gR c hc g, l, b, hb, pn c q hq t' b k p, i, (rc c hc b i).mpr i1, inr2 q hq i i1.1 i2, saf _ _ i3⟩
    · exfalso
      rw [n62 k (by omega) hk] at r
      have := h5 q hq t'
      rw [← r, em] at this
      omega
  · by_cases z : (k : Int) < (s.i 59).toInt
    · rw [(o59 k z).2.2]
      rcases h4 k k1 z with y | ⟨q, hq, t, r⟩
      · exact Or.inl y
      · exact Or.inr ⟨q, hq, (tyQ q hq).mpr t, by rw [e66 q hq t]; exact r⟩
    · exact Or.inl (n62 k (by omega) k2)
  · have t' := (tyQ q hq).mp t
    rw [e66 q hq t']
    exact h5 q hq t'
  · have t1' := (tyQ q hq).mp t1
    have t2' := (tyQ p hp).mp t2
    rw [e66 q hq t1', e66 p hp t2']
    exact h6 q hq p hp t1' t2' l
  · obtain ⟨g1', g2, g3, g4, g5⟩ := h7 c hc
    rw [(o1 c hc).1, (o1 c hc).2, e54, e55]
    refine ⟨g1', g2, g3, g4, fun q => ?_⟩
    rcases List.mem_cons.mp hc with z | hc2
    · rw [z] at q g4 g5 ⊢
      rcases r216 q with w | w
      · rw [w.2]
        exact ⟨g4, Int.le_refl _⟩
      · rw [w.2]
        exact g5 w.1
    · rw [eo c hc2] at q ⊢
      exact g5 q
  · rw [e55] at hi
    rw [e52, e54]
    obtain ⟨c9, hc9, hl9⟩ := hg9
    rw [(o1 c9 hc9).2] at hl9
    exact h8.1 i hi ⟨c9, hc9, hl9⟩
  · obtain ⟨hc2, q2⟩ := gL c hc q
    rw [efl c hc2 q2]
    exact h8.2 c hc q2 b
theorem STK.eo {S R : CS} {s : RS} (er : R.r = S.r) (e18 : R.a 18 = S.a 18) : ∀ (L : List CEL) (m e k : Int), (∀ y ∈ L, R.o y.2.1 = S.o y.2.1 ∧ R.ol y.2.1 = S.ol y.2.1) → STK S s L m e k → STK R s L m e k
  | [], _, _, _, _, _ => trivial
  | c :: L, m, e, k, h, g => by
    obtain ⟨m', e', k', g1, g2, g3⟩ := g
    obtain ⟨eo, eol⟩ := h c List.mem_cons_self
    refine ⟨m', e', k', ?_, fun c0 hc0 => ?_, STK.eo er e18 L m' e' k' (fun y hy => h y (List.mem_cons_of_mem _ hy)) g3⟩
    · unfold CST RFR CSM at g1 ⊢
      rw [er, eo, eol, e18]
      exact g1
    · obtain ⟨a1, a2⟩ := g2 c0 hc0
      have e0 := (h c0 (List.mem_cons_of_mem _ (List.mem_of_mem_head? hc0))).1
      unfold LNK LOW at *
      rw [eo, e0]
      exact ⟨a1, a2⟩
theorem COR.chg {d : Int32} {B : CS} {b : RS} {t0 : Nat} {L : List CEL} {x x' : Int} {S R : CS} {s u : RS} {c1 c : CEL} (h : COR d B b t0 (c1 :: c :: L) x S s) (tp : TOP S s c1) (hT : t0 ≤ ceT c1) (hb : (B.i 53).toInt ≤ (c1.1 : Int)) (ev : ENV d R u) (f : FRB (ceT c1) s u) (tb : TBR s u) (cd : CDK (s.i 20).toInt s u) (nm : u.i 2 = s.i 2 ∧ u.i 3 = s.i 3 ∧ u.i 8 = s.i 8 ∧ u.a 1 = s.a 1 ∧ u.a 4 = s.a 4 ∧ u.b 9 = s.b 9) (h38 : (b.i 38).toInt ≤ (u.i 38).toInt) (h43 : u.i 43 = s.i 43) (h56 : (b.i 56).toInt ≤ (u.i 56).toInt) (n8 : 8 * ((u.i 38).toInt - 2) ≤ (u.i 11).toInt)
    (er : R.r = S.r) (eo : ∀ a : Nat, a ≠ c1.2.1 → R.o a = S.o a ∧ R.ol a = S.ol a) (e1 : R.o c1.2.1 1 = S.o c1.2.1 1 ∧ R.o c1.2.1 3 = S.o c1.2.1 3 ∧ R.o c1.2.1 14 = S.o c1.2.1 14) (ei : R.i 22 = S.i 22 ∧ R.i 38 = S.i 38 ∧ R.i 53 = S.i 53 ∧ R.i 54 = S.i 54 ∧ R.i 55 = S.i 55 ∧ R.i 56 = S.i 56) (ea : R.a 18 = S.a 18 ∧ R.a 52 = S.a 52) (o50 : ∀ y ∈ c1 :: c :: L, (S.o y.2.1 3).toInt ≤ (R.i 50).toInt)
    (g0 : ¬ isGo (S.o c1.2.1 0)) (g1 : ¬ isGo (R.o c1.2.1 0)) (ty : isTy (R.o c1.2.1 0) ↔ isTy (S.o c1.2.1 0)) (dp : nDp (R.o c1.2.1 0) = nDp (S.o c1.2.1 0)) (db : dbt (R.o c1.2.1 0) = 0) (n216 : S.o c1.2.1 0 = 216 → R.o c1.2.1 0 = 216) (r216 : R.o c1.2.1 0 = 216 → (¬ S.o c1.2.1 0 = 216 ∧ R.o c1.2.1 15 = S.i 55) ∨ (S.o c1.2.1 0 = 216 ∧ R.o c1.2.1 15 = S.o c1.2.1 15)) (k12 : isTy (S.o c1.2.1 0) → R.o c1.2.1 12 = S.o c1.2.1 12 ∧ u.a 66 (ceT c1) = s.a 66 (ceT c1) ∧ u.a 72 (ceT c1) = s.a 72 (ceT c1)) (rfr : RFR R u c1.2.1 (ceT c1) (ceG c1) (ceW c1)) (hcol : ∃ col : Nat → Option (Nat × Bool), COL R u (c1 :: c :: L) col (b.i 20).toInt) (rt : RTE S R) (q : (s.i 11).toInt ≤ (u.i 11).toInt ∧ phI b + PDM S (c :: L) ≤ phI u ∧ (s.i 17).toInt ≤ (u.i 17).toInt ∧ (u.i 19).toInt + (nSg (S.o c1.2.1 0) : Int) = (s.i 19).toInt + (nSg (R.o c1.2.1 0) : Int)) (ks : isKS (R.o c1.2.1 0)) : COR d B b t0 (c1 :: c :: L) x' R u := by
  have hin0 := h.inl tp (T := ceT c1 + wid (S.o c1.2.1 0)) rfl
  obtain ⟨h1, h2, h3, h4, h5, ⟨h6, h7, h8, h9⟩, ⟨h10, h11, h12, hsg⟩, h13, ⟨h14, h15, h16⟩, h17, ⟨h18, h19, h20, -⟩⟩ := h
  have ord := STK.ord (c :: L) c1 _ _ _ h2
  have inj := (STK.inj (c1 :: c :: L) _ _ _ h2).1
  have adr : ∀ y ∈ c :: L, y.2.1 ≠ c1.2.1 := fun y hy z => by
    have w := h1.ri.2.1 y.1 c1.1 c1.2.1
    obtain ⟨m1, e1', k1, m2, e2, k2, cy⟩ := STK.mem _ _ _ _ h2 y (List.mem_cons_of_mem _ hy)
    obtain ⟨m3, e3, k3, m4, e4, k4, cz⟩ := STK.mem _ _ _ _ h2 c1 List.mem_cons_self
    have := w cy.2.1 cz.2.1 (by rw [← z]; exact cy.1) cz.1
    have := ord y hy
    omega
  have eoL : ∀ y ∈ c :: L, R.o y.2.1 = S.o y.2.1 := fun y hy => (eo y.2.1 (adr y hy)).1
  obtain ⟨d1, d2⟩ := DSM.eq (c :: L) eoL
  obtain ⟨m1, m2, m3, m7, m8, m9⟩ := nm
  obtain ⟨i22, i38, i53, i54, i55, i56⟩ := ei
  have k11 := h1.1.2.2.2.1.1
  have k11' := ev.1.2.2.2.1.1
  have rt' := rt
  unfold RTE at rt'
  rw [k11, k11'] at rt'
  obtain ⟨m', e', k', c1s, lkl, stl⟩ := id h2
  obtain ⟨lk, lw⟩ := lkl c rfl
  have n218 : ¬ S.o c1.2.1 0 = 218 := fun z => g0 (Or.inr (Or.inl z))
  have n218' : ¬ R.o c1.2.1 0 = 218 := fun z => g1 (Or.inr (Or.inl z))
  obtain ⟨s1, s2, s3, s4, s5, s6, s7⟩ := c1s
  obtain ⟨em, ee⟩ := s4 n218
  -- the rows below
  have hinL : INL S s (ceT c1) (c :: L) := fun y hy => by
    have z := STK.inl L c _ _ _ stl (by have := tp.1; have := lk.1; omega) (by have := tp.2.1; have := lk.2.2.1; omega) (by have := tp.2.2; have := lk.2.2.2.1; omega)
    rw [← lk.2.1] at z
    exact z y hy
  have stE : STK R s (c :: L) m' e' k' := STK.eo er ea.1 (c :: L) _ _ _ (fun y hy => eo y.2.1 (adr y hy)) stl
  have hinR : INL R s (ceT c1) (c :: L) := fun y hy => by
    obtain ⟨z1, z2, z3, z4, z5⟩ := hinL y hy
    rw [i53, er, eoL y hy]
    exact ⟨z1, z2, z3, z4, z5⟩
  have stR : STK R u (c :: L) m' e' k' := STK.mv (CKZ.rf R) f tb cd (c :: L) _ _ _ stE hinR (by rw [em, i22]; exact Int.le_refl _) (by rw [ee]; exact Int.le_refl _) (by
    by_cases z : isTy (S.o c1.2.1 0)
    · exact (s7 z).1
    · rw [s6 z]; exact Int.le_refl _)
  have efl : ∀ y ∈ c :: L, isGo (S.o y.2.1 0) → ∀ v : Int, flg u (ceG y) v = flg s (ceG y) v := fun y hy g v => by
    have z := tb.2.1 (ceG y) ((hinL y hy).2.2.2.1 g)
    unfold flg
    rw [z.2.2.2.2.1, z.2.2.2.2.2.1]
  have e66 : ∀ y ∈ c1 :: c :: L, isTy (S.o y.2.1 0) → u.a 66 (ceT y) = s.a 66 (ceT y) := fun y hy t => by
    rcases List.mem_cons.mp hy with z | hy
    · rw [z] at t ⊢
      exact (k12 t).2.1
    · have a := (hinL y hy).2.2.1
      have b := wid1 (S.o y.2.1 0)
      exact (f (ceT y) (by omega)).2.2.1
  have jq := h3.chg h18 eoL e1.1 e1.2.2 i54 i55 ea.2 g0 g1 ty n216 r216 e66 efl tb
  have lkR : LNK R c1 c := by
    unfold LNK at *
    rw [e1.1, e1.2.1, e1.2.2, eoL c List.mem_cons_self]
    obtain ⟨k1, k2, k3, k4, k5, k6, k7, k8, -⟩ := lk
    exact ⟨k1, k2, k3, k4, k5, k6, k7, k8, ks⟩
  have lwR : LOW R u c := lw.mv (eoL c List.mem_cons_self) f (by rw [lk.2.1]; exact Nat.le_refl _)
  have cstR : ∃ k2 : Int, CST R u c1 (R.i 22).toInt (u.i 24).toInt (u.i 33).toInt (R.i 22).toInt (u.i 24).toInt k2 ∧ k' ≤ k2 := by
    have l24 := tb.2.2.2.2.2.2.2.2.2.1
    have l33 := tb.2.2.2.2.2.2.2.1
    by_cases z : isTy (S.o c1.2.1 0)
    · obtain ⟨x1, Lk, x4, x5, x6, x7⟩ := s7 z
      obtain ⟨y12, y66, y72⟩ := k12 z
      have z66 := (s3.2.2.2.2.2.2.2.2.2.2.2.2 z).1.2.1
      have cl := clampI z66.1
      have jl := kch.lt Lk _ x4
      have e2 := tb.2.2.2.2.2.2.2.2.1
      refine ⟨k', ⟨by rw [er]; exact s1, s2, rfr, fun _ => ⟨rfl, rfl⟩, fun w => absurd w n218', fun w => absurd (ty.mpr z) w, fun _ => ⟨by omega, Lk, ?_, ⟨fun v hv => ?_, fun j hj => by rw [(e2 j (jl j hj)).1]; exact x5.2 j hj⟩, by rw [y72]; exact x6, fun j hj => by have := x7 j hj; omega⟩⟩, Int.le_refl _⟩
      · rw [y66, tb.2.2.2.2.2.2.1 _ (by omega)]
        exact kch.up l33 (fun j hj => (e2 j hj).2) _ _ x4
      · rw [y12, x5.1 v hv]
        constructor
        · intro ⟨j, j1, j2⟩
          exact ⟨j, j1, by rw [(e2 j (jl j j1)).1]; exact j2⟩
        · intro ⟨j, j1, j2⟩
          exact ⟨j, j1, by rw [(e2 j (jl j j1)).1] at j2; exact j2⟩
    · have ek := s6 z
      exact ⟨(u.i 33).toInt, ⟨by rw [er]; exact s1, s2, rfr, fun _ => ⟨rfl, rfl⟩, fun w => absurd w n218', fun _ => rfl, fun w => absurd (ty.mp w) z⟩, by omega⟩
  obtain ⟨k2, cst, k2l⟩ := cstR
  have l24 := tb.2.2.2.2.2.2.2.2.2.1
  have stf : STK R u (c :: L) (R.i 22).toInt (u.i 24).toInt k2 := by
    rw [em, ee] at stR
    rw [i22]
    exact stR.hi l24 k2l
  have cb : CBB B R := by
    obtain ⟨a1, a2, a3, a4, a5, a6, a7, a8, a9, a10, a11⟩ := h5
    refine ⟨fun k hk => by rw [er]; exact a1 k hk, fun k a hk ha => ?_, by rw [i53]; exact a3, by rw [i22]; exact a4, fun k hk => by rw [ea.1]; exact a5 k hk, by rw [i54]; exact a6, by rw [i55]; exact a7, fun k hk => by rw [ea.2]; exact a8 k hk, fun k q1 q2 => by rw [ea.2]; rw [i55] at q2; exact a9 k q1 q2, ?_, i56.trans a11⟩
    · have z := a2 k a hk ha
      have e := eo a (fun w => by
        rw [w] at ha
        have := h1.ri.2.1 k c1.1 c1.2.1 (by have := s2; omega) s2 ((a1 k hk).trans ha) s1
        omega)
      exact ⟨e.1.trans z.1, e.2.trans z.2⟩
    · unfold RTE at *
      omega
  have e6' : SSM R (c1 :: c :: L) = (nSg (R.o c1.2.1 0) : Int) + SSM R (c :: L) := rfl
  have e7' : SSM S (c1 :: c :: L) = (nSg (S.o c1.2.1 0) : Int) + SSM S (c :: L) := rfl
  have e1' : PDM R (c1 :: c :: L) = dbt (R.o c1.2.1 0) + PDM R (c :: L) := rfl
  have e2' : DSM R (c1 :: c :: L) = (nDp (R.o c1.2.1 0) : Int) + DSM R (c :: L) := rfl
  have e3' : DSM S (c1 :: c :: L) = (nDp (S.o c1.2.1 0) : Int) + DSM S (c :: L) := rfl
  refine ⟨ev, stf.push cst lkR lwR, jq, ?_, cb, ⟨h6.tr (f.mo hT), h7.mv tb h38 (by rw [h43]; exact h7.2.1) h56, h8.tr (cd.wk h8.1), ⟨m1.trans h9.1, m2.trans h9.2.1, m3.trans h9.2.2.1, m7.trans h9.2.2.2.1, m8.trans h9.2.2.2.2.1, m9.trans h9.2.2.2.2.2⟩⟩, ⟨by omega, by rw [e1', db, d2]; omega, by omega, by rw [e6', SSM.eo (c :: L) eoL]; rw [e7'] at hsg; omega⟩, ⟨?_, ?_, ?_, ?_, fun y hy => ⟨fun t z => ?_, fun t z => ?_⟩⟩, ⟨by omega, n8, by omega⟩, ?_, h18, h19, h20, hcol⟩
  · have n303 : ¬ S.o c1.2.1 0 = 303 := fun z => g0 (Or.inl z)
    have n303' : ¬ R.o c1.2.1 0 = 303 := fun z => g1 (Or.inl z)
    have nl : ∀ v : Int32, ¬ isGo v → ¬ (v = 205 ∨ v = 206 ∨ v = 207 ∨ v = 304) := fun v g z => g (by
      rcases z with z | z | z | z
      · exact Or.inr (Or.inr (Or.inl z))
      · exact Or.inr (Or.inr (Or.inr (Or.inl z)))
      · exact Or.inr (Or.inr (Or.inr (Or.inr (Or.inl z))))
      · exact Or.inr (Or.inr (Or.inr (Or.inr (Or.inr z)))))
    unfold LBC at h4 ⊢
    rw [if_neg n303, if_neg (nl _ g0)] at h4
    rw [if_neg n303', if_neg (nl _ g1)]
    exact LBC.mv (c :: L) _ h4 eoL (fun y hy w => (tb.2.1 (ceG y) ((hinL y hy).2.2.2.1 (Or.inl w))).2.2.1)
  · rw [e2', dp, d1, i38, h13.1, e3']
  · intro y hy
    rcases List.mem_cons.mp hy with z | hy2
    · have w := h13.2.1 c1 List.mem_cons_self
      rw [z, e1.2.1]
      exact ⟨w.1, o50 c1 List.mem_cons_self⟩
    · rw [eoL y hy2]
      exact ⟨(h13.2.1 y hy).1, o50 y hy⟩
  · intro y hy z hz l
    have o3 : ∀ w ∈ c1 :: c :: L, R.o w.2.1 3 = S.o w.2.1 3 := fun w hw => by
      rcases List.mem_cons.mp hw with k | hw
      · rw [k]
        exact e1.2.1
      · rw [eoL w hw]
    rw [o3 y hy, o3 z hz]
    exact h13.2.2.1 y hy z hz l
  · have z := h13.2.2.2.1
    have w1 : cfl S (c1 :: c :: L) (S.i 22).toInt = cfl S (c :: L) (if S.o c1.2.1 0 = 218 then (S.o c1.2.1 13).toInt else (S.i 22).toInt) := rfl
    have w2 : cfl R (c1 :: c :: L) (R.i 22).toInt = cfl R (c :: L) (if R.o c1.2.1 0 = 218 then (R.o c1.2.1 13).toInt else (R.i 22).toInt) := rfl
    rw [w1, if_neg n218] at z
    rw [w2, if_neg n218', cfl.eq (c :: L) _ eoL, i22]
    exact z
  · rcases List.mem_cons.mp hy with e0 | hy2
    · rw [e0] at t z ⊢
      have t' := ty.mp t
      rw [(k12 t').2.2] at z ⊢
      exact (h13.2.2.2.2 c1 List.mem_cons_self).1 t' z
    · rw [eoL y hy2] at t
      rw [(FRB72 hinL f y hy2).1] at z ⊢
      exact (h13.2.2.2.2 y hy).1 t z
  · rcases List.mem_cons.mp hy with e0 | hy2
    · rw [e0] at t
      exact absurd t n218'
    · rw [eoL y hy2] at t
      rw [(FRB72 hinL f y hy2).2] at z ⊢
      exact (h13.2.2.2.2 y hy).2 t z
  · obtain ⟨⟨a1, a2⟩, a3⟩ := h17
    unfold IAR
    rw [i56, i53, er, h43]
    refine ⟨⟨fun z => ?_, fun z => ?_⟩, a3⟩
    · obtain ⟨g, g1, g2⟩ := a1 z
      exact ⟨g, g1, (tb.2.1 g g1).1.trans g2⟩
    · obtain ⟨g, g1, g2⟩ := z
      exact a2 ⟨g, g1, (tb.2.1 g g1).1.symm.trans g2⟩
end
