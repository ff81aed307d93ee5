/-! both readers: the end of a for over a row -/
set_option maxHeartbeats 2000000 in
theorem en_row {N : Nat} {E1 : CS → Option (Unit × CS)} {E2 : CS → Option (Int32 × CS)} {d : Int32} {B : CS} {b : RS} {t0 n : Nat} {L : List CEL} {x : Int} {S : CS} {s U : RS} {c1 c : CEL} {R : Unit × CS} {Aj : JBA} (mA : JBM U Aj) (hC : COR d B b t0 (c1 :: c :: L) x S s) (tp : TOP S s c1) (hM : MEN c1 S s) (h304 : S.o c1.2.1 0 = 304) (bz : BAZ B b (c1 :: c :: L)) (hT : t0 ≤ ceT c1) (e : f_X7_endBody N E1 E2 S c1.2.1 = some R) (g : f_X12_parse_10 N n s = some U) : ∃ (m : Nat) (u : RS), f_X12_parse_10 N m u = some U ∧ POPD d B b t0 c L R.2 u ∧ JTR Aj U B b (c1 :: c :: L) S s (vws R.2 u (c :: L)) R.2 u := by
  obtain ⟨one, o5, ts, h75, hm⟩ := hM
  obtain ⟨m1, e1, k1, m2, e2, k2, cst⟩ := STK.mem _ _ _ _ hC.2.1 c1 List.mem_cons_self
  obtain ⟨⟨f1, f2, f3, f4, f5⟩, o7⟩ := cst.2.2.1.2.2.2.2.2.2.2.2.2.1 h304
  have hv := hC.1
  have go : isGo (S.o c1.2.1 0) := Or.inr (Or.inr (Or.inr (Or.inr (Or.inr h304))))
  obtain ⟨m2, V, hV, g2⟩ := rl_12 g ts hv.1.2.1 f1
  unfold f_X12_fors at hV
  obtain ⟨hib, hV⟩ := hf_ite hV
  have t9 : ceT c1 < 1000 := by
    have h2 : (s.i 63).toInt = (ceT c1 : Int) := ts
    have := hib.2
    omega
  have g73 : (s.a 73 (ceT c1)).toNatClampNeg = ceG c1 := by
    show (s.a 73 (ceT c1)).toInt.toNat = ceG c1
    omega
  rw [tp_nat ts, f2, if_neg (by decide), if_neg (by decide), if_neg (by decide), if_neg (by decide), if_neg (by decide), if_neg (by decide), if_neg (by decide), if_neg (by decide), if_neg (by decide), ob_id] at hV
  unfold f_X12_rows at hV
  obtain ⟨-, hV⟩ := hf_ite hV
  rw [tp_nat ts, f2, if_neg (by decide), if_neg (by decide), g73] at hV
  obtain ⟨-, hV⟩ := hf_ite hV
  obtain ⟨s1, hp1, hV⟩ := hf_bind hV
  obtain ⟨y, hy, hV⟩ := hf_bind hV
  obtain ⟨-, hV⟩ := hf_ite hV
  obtain ⟨q0, hp2, hV⟩ := hf_bind hV
  obtain ⟨z, hz, hV⟩ := hf_bind hV
  rw [ob_id] at hV
  have d2 : dbt (S.o c1.2.1 0) = 2 := by
    rw [h304]
    rfl
  obtain ⟨hE0, ⟨lk, lw0, tp0, tq0⟩, frm, ⟨q50, q44⟩, ⟨q43, q38⟩, ph0⟩ := lp_pt (pf := 66) hC tp ts hT go (by rw [h304]; unfold isTy; decide) (by rw [h304]; decide) (by rw [h304]; rfl) (by rw [h304]; rfl) (by rw [d2]; decide) (Or.inl rfl) (Or.inl ⟨Or.inr h304, rfl⟩) hp1 hy hp2
  rw [d2] at ph0
  have pd0 := (PDM.ge S (c :: L)).1
  have b30 := hC.2.2.2.2.2.2.2.2.2.2.2.1
  -- the last instruction
  obtain ⟨n1, n2, n3, n4, n5, n6, n7, n8, n9, n19, -⟩ := y_emit hE0.1 tq0 (by omega) hz
  have hinq : INL S q0 (ceT c1) (c :: L) := by
    have z := STK.inl L c _ _ _ hE0.2.1 (by have := tp.1; have := lk.1; omega) (by have := tp0.2.1; have := lk.2.2.1; omega) (by have := tp0.2.2; have := lk.2.2.2.1; omega)
    rw [← lk.2.1] at z
    exact z
  have hE := hE0.mv3 hinq hT n1 (n3 _) n4 ⟨by rw [n8]; exact Int.le_refl _, by omega, by rw [n9]; exact Int.le_refl _, by rw [n19]⟩
  have zt := n4.1.1
  have z43 : z.2.i 43 = q0.i 43 := zt.2.2.2.2.1
  have z56 : z.2.i 56 = q0.i 56 := zt.2.2.2.2.2.2.1
  have z71 : z.2.a 71 (ceT c1) = S.o c1.2.1 3 := by
    rw [(n3 (ceT c1 + 1)).all 71 (by decide) (by decide), frm 71 (by decide) (by decide)]
    exact f4
  have gi : (ceG c1 : Int) < (q0.i 43).toInt := by
    have := tp0.2.1
    have := nGo1 go
    omega
  have z44 : z.2.a 44 (ceG c1) = 0 := by
    rw [(n4.1.r.2.1 (ceG c1) gi).1, q44]
    exact f5
  -- the class
  unfold f_X7_endBody at e
  obtain ⟨-, e⟩ := hf_ite e
  rw [if_neg (by rw [h304]; decide), if_neg (by rw [h304]; decide), if_neg (by rw [h304]; decide), if_neg (by rw [h304]; decide)] at e
  obtain ⟨p36, e36, e⟩ := hf_bind e
  obtain ⟨-, e⟩ := hf_ite e
  obtain ⟨p41, e41, e⟩ := hf_bind e
  obtain ⟨-, e⟩ := hf_ite e
  obtain ⟨a1, a2, -, -⟩ := y_add hv e36
  obtain ⟨b1, b2, -, -⟩ := y_aim a1 e41
  obtain ⟨a1q, -, -, -⟩ := y_add hE.1 e36
  obtain ⟨b1q, -, -, -⟩ := y_aim a1q e41
  have ck := a2.tr b2
  have hin0 := hC.inl tp (T := ceT c1 + wid (S.o c1.2.1 0)) rfl
  have eo : ∀ z ∈ c1 :: c :: L, p41.2.o z.2.1 = S.o z.2.1 := fun z hz => (hin0.o ck.z z hz).1
  have eo1 := eo c1 List.mem_cons_self
  have eoc := eo c (List.mem_cons_of_mem _ List.mem_cons_self)
  rw [eo1, if_pos o7] at e
  have hinz : INL S z.2 (ceT c1) (c :: L) := hinq.mv (CKZ.rf S) rfl z43 z56
  have hEp := hE.cx hinz hT b1q ck
  have g43 : (z.2.i 43 - 1).toInt = (z.2.i 43).toInt - 1 := by
    have e1 : (1 : Int32).toInt = 1 := by decide
    have hi := Int32.toInt_lt (z.2.i 43)
    rw [← z43] at gi
    rw [toInt_sub] <;> rw [e1] <;> omega
  have tpp : TOP p41.2 z.2 c1 := ⟨by rw [ck.1.2.2.2.2.1]; exact tp.1, by rw [eo1, z43]; exact tp0.2.1, by rw [eo1, z56]; exact tp0.2.2⟩
  have lkp : LNK p41.2 c1 c := by
    unfold LNK at *
    rw [eo1, eoc]
    exact lk
  have lwp : LOW p41.2 z.2 c := by
    have w := lw0.mv (rfl : S.o c.2.1 = S.o c.2.1) (n3 (ceT c1)) (by rw [lk.2.1]; exact Nat.le_refl _)
    unfold LOW at *
    rw [eoc]
    exact w
  obtain ⟨X1, X2, X3, X4, X5⟩ := e_193 (n := c.1) (by rw [ck.1.2.2.2.2.1]; have := tp.1; have := lk.1; omega) e
  have ob := hC.2.2.2.2.2.2.2.1.2
  have ord := STK.ord (c :: L) c1 _ _ _ hC.2.1
  have i50 : p41.2.i 50 = S.i 50 := ck.1.2.2.2.1
  refine ⟨m2, V, g2, (pop_core hEp tpp lkp lwp bz hT t9 n2 (by rw [eo1, h304]; rfl) (fun _ => by rw [z44]; decide) (Or.inr rfl) hV ⟨fun k h1 h2 h3 => ((if_neg h1).trans (if_neg h2)).trans (if_neg h3), rfl, rfl, rfl⟩ (by rw [eo1]; exact z71) (by rw [eo1, nGo1 go]; exact g43) (by rw [eo1, i50]; exact ob.1 c1 List.mem_cons_self) (fun w hw => by rw [eo1, eo w (List.mem_cons_of_mem _ hw)]; exact ob.2.1 w (List.mem_cons_of_mem _ hw) c1 List.mem_cons_self (ord w hw)) X1 X2 X3 X4 X5).1, fun _ jw => ?_⟩
  -- the code
  obtain ⟨-, -, b0, col, hc⟩ := id hC.2.2.2.2.2.2.2.2.2.2
  obtain ⟨hx48, hx49⟩ := hc.2.2.1 c1 List.mem_cons_self go
  have ph := hC.2.2.2.2.2.2.1.2.1
  have phe : PDM S (c1 :: c :: L) = 2 + PDM S (c :: L) := by
    show dbt (S.o c1.2.1 0) + PDM S (c :: L) = _
    rw [d2]
  have e22a := pt_in (F := fun k => col k = some (ceG c1, false)) (κ := (ceG c1, false)) hc (fun k hk => hk) hx49 hp1
  have s66 : s1.a 66 (ceT c1) = s.a 66 (ceT c1) := by rw [e22a.2.2.2.1 66 (by decide)]
  rw [s66] at hy
  have eo36 := (hin0.o a2.z c1 List.mem_cons_self).1
  rw [eo36] at e41
  have pl6 := hc.2.2.2.2.2.2 c1 List.mem_cons_self (s.a 66 (ceT c1)).toInt (Or.inl ⟨Or.inr h304, rfl⟩)
  have c6 := clampI (show 0 ≤ (s.a 66 (ceT c1)).toInt by have := pl6.1; omega)
  have p20 := hv.p20
  have p20q := hE0.1.p20
  obtain ⟨l1, l2, u, ⟨k1, k2⟩, e22, x1, x2, x3, x4, x5, q20, qi, qa⟩ := lp_alt (pf := 66) (T := ceT c1) hc hx48 hx49 (Or.inl rfl) pl6.2.2.1 (by rw [c6]; exact pl6.2.1) ⟨p20.1, by omega⟩ hp1 hy hp2
  obtain ⟨w, hw⟩ : ∃ w, w = z.2.i 52 - 1 := ⟨_, rfl⟩
  obtain ⟨z', hz', za, zi, z52, zk, zA⟩ := em_52 (v := w) hz
  obtain ⟨y', hy', ya', y20', yi'⟩ := x5 (RS.setI u 52 w) rfl rfl
  have s52 : z.2.i 52 = s.i 52 := (zk 52 (by decide)).trans (qi 52 (by decide))
  have hr0 : (vw S s c1).v = 304 := h304
  have lo : isLo (vw S s c1).v := Or.inr (Or.inr (Or.inr hr0))
  have goV : isGo (vw S s c1).v := go
  have nty : ¬ isTy (vw S s c1).v := fun z => by
    rw [hr0] at z
    rcases z with z | z | z | z <;> exact absurd z (by decide)
  have r66 : (vw S s c1).2.1 66 = s.a 66 (ceT c1) := (vw_at (k := 66) ⟨by decide, by decide⟩)
  have si : ∀ k : Nat, rsite (vw S s c1) k ↔ (k : Int) = (s.a 66 (ceT c1)).toInt := fun k => by
    unfold rsite
    rw [hr0, r66]
    refine ⟨fun z => ?_, fun z => Or.inl ⟨Or.inr (Or.inl rfl), z⟩⟩
    rcases z with ⟨-, z⟩ | ⟨z, -⟩ | ⟨z, -⟩ | ⟨z, -⟩
    · exact z
    · exact absurd z (by decide)
    · exact absurd z (by decide)
    · exact absurd z (by decide)
  have gis := hC.gis
  have h44 : (S.i 44).toInt ≤ 900 := by
    rw [hv.p44.1]
    exact (i11_hi hv).2
  obtain ⟨ee, he1, he2⟩ := clo_e (S.i 43)
  have rt : rtgs (vw S s c1) = [(vw S s c1).1 9] := by
    unfold rtgs
    rw [hr0, if_neg (by decide), if_pos (by decide)]
  have en : ∀ (G : GHT) (ω h l : Nat), jen G ω (vw S s c1) h l = [(4, h, (G (vw S s c1).2.2.1).1, (G (vw S s c1).2.2.1).2.1, 0, 0, 0)] := fun G ω h l => by
    unfold jen
    rw [hr0, if_neg (by decide), if_neg (by decide), if_neg (by decide), if_neg (by decide), if_pos rfl]
    rfl
  have j0 := JRW.clo (V := vws S s (c :: L)) (r := vw S s c1) (u := u) (u' := RS.setI u 52 w) (S' := S) (l1 := l1) (l2 := l2) (vb := s.i 20 + 1) (vc := s.a 66 (ceT c1)) (vs := s.i 20 + 1) (e := ee) (dr := 1) jw (fun y => y.cl rfl rfl (show w = s.i 52 - d32 (vw S s c1).v by rw [d32.yes (Or.inr (Or.inr (Or.inr (Or.inr hr0)))), hw, s52]) (show (u.i 38).toInt ≤ (s.i 38).toInt by rw [e22.1]; exact Int.le_refl _)) h44 mA (vws.pl hC) (fun _ y hy gy e => by have := gis y hy gy; have e' : y.2.2.2 = ceG c1 := e; omega) nty (by rw [hr0]; decide) (fun _ => ⟨k1, fun _ => k2⟩) e22 (fun _ j hj => x1 j hj) (fun _ j hj => x2 j hj) (fun j z => by
    have z1 := (si j).mp z
    have z2 : j = (s.a 66 (ceT c1)).toNatClampNeg := by omega
    exact ⟨by rw [z2]; exact x3, by have := pl6.1; omega⟩) (fun j n1 n2 n3 => x4 j (n1 goV) (n2 lo) (fun z2 => n3 ((si j).mpr (by rw [z2]; exact c6)))) (D38.rf _) ⟨⟨rfl, rfl, rfl, rfl, rfl⟩, rfl, rfl, rfl, rfl, rfl, rfl, rfl, rfl, rfl, rfl, rfl, rfl, rfl, rfl⟩ ⟨Or.inl rfl, rfl, rfl, rfl⟩ (fun _ _ _ => rfl) (fun nm G ω j ng hcx => by
      rw [en] at ng hcx
      refine ⟨NMH.pop ng (show ¬ (4 : Nat) = 2 by decide) rfl rfl (by show u.i 38 = s.i 38; rw [e22.1]) (e22.2 40 (by decide)) (by show (S.i 38).toInt = (S.i 38).toInt + (if (4 : Nat) ≤ 3 then 1 else 0); rw [if_neg (by decide)]; omega) ?_ rfl (by show u.i 42 = s.i 42; rw [e22.1]) (by show u.i 20 = s.i 20; rw [e22.1]), hcx.tl⟩
      show (s.i 52).toInt = w.toInt + 1
      have n3 : (((j.c.length + 1 : Nat)) : Int) = (s.i 52).toInt := ng.2.2.1
      have e1 : (1 : Int32).toInt = 1 := by decide
      have hi := Int32.toInt_lt (s.i 52)
      rw [hw, s52]
      have z : (s.i 52 - 1).toInt = (s.i 52).toInt - 1 := by
        rw [toInt_sub] <;> rw [e1] <;> omega
      omega) (fun G => by
      show (1 : Int) ≤ dbr (G (vw S s c1).2.2.1) (S.o c1.2.1 0)
      rw [h304]
      exact Int.le_refl _) he1
  rw [rt] at j0
  have j1 := j0.lop (by unfold pcR; show (u.i 20).toInt.toNat = _; rw [e22.1]) e36 h44 hy' (by show 0 ≤ (u.i 20).toInt ∧ (u.i 20).toInt < 3000; rw [e22.1]; exact ⟨p20.1, by omega⟩) e41 (by rcases he1 with z | ⟨z, -⟩ <;> omega)
  have qy : ∀ k : Nat, (RS.setI q0 52 w).i k = y'.2.i k := fun k => by
    by_cases h2 : k = 52
    · rw [h2, yi' 52 (by decide)]
      rfl
    · have e1 : (RS.setI q0 52 w).i k = q0.i k := if_neg h2
      by_cases h0 : k = 20
      · rw [e1, h0, y20']
      · have e2 : (RS.setI u 52 w).i k = u.i k := if_neg h2
        rw [e1, qi k h0, yi' k h0, e2, e22.1]
  have pz : pcR y'.2 = pcR q0 := by unfold pcR; rw [y20']
  rw [pz] at j1
  have j2 := j1.se (u := RS.setI q0 52 w) (by
    unfold qe
    rw [show (RS.setI q0 52 w).a = y'.2.a from ya'.symm, qy 20, qy 24, qy 29, qy 33, qy 42, qy 52]) ⟨qy 38, fun j _ => by rw [show (RS.setI q0 52 w).a = y'.2.a from ya'.symm]⟩
  have j3 := j2.emr hz' (by show 0 ≤ (q0.i 20).toInt ∧ (q0.i 20).toInt < 3000; exact ⟨p20q.1, by omega⟩)
  have p43 : p41.2.i 43 = S.i 43 ∧ p41.2.i 44 = S.i 44 := by
    unfold f_X0_aim f_X0_add at *
    cases e36
    cases e41
    exact ⟨rfl, rfl⟩
  have j4 := j3.p12 (by rw [p43.2]; exact h44) (by decide)
  have t43 := tp.2.1
  have o3le := (ob.1 c1 List.mem_cons_self).2
  have zq : ∀ k : Nat, k ≠ 20 → z.2.i k = s.i k := fun k hk => (zk k hk).trans (qi k hk)
  obtain ⟨jr, oR, aV⟩ := j4.pop1 (n := c.1) (q' := RS.setI (RS.setI (RS.setI z.2 52 (z.2.i 52 - 1)) 43 (z.2.i 43 - 1)) 38 (z.2.a 71 (ceT c1))) (by omega) (by rw [p43.1]; exact he2) (by rw [ck.1.2.2.2.2.1]; have := tp.1; have := lk.1; omega) e ⟨fun k h1 h2 => by
      by_cases h3 : k = 52
      · rw [h3, z52, hw]
        rfl
      · exact (((if_neg h1).trans (if_neg h2)).trans (if_neg h3)).trans (zi k h3).symm, za.symm⟩ (by
    show (z.2.a 71 (ceT c1)).toInt ≤ (z'.2.i 38).toInt
    rw [z71, zi 38 (by decide), zq 38 (by decide), ← hv.2.1.1]
    exact o3le) hV (fun y hy gy => by
    have := gis y hy gy
    show ((y.2.2.2 : Nat) : Int) < (z.2.i 43 - 1).toInt
    rw [g43, zq 43 (by decide)]
    have := nGo1 go
    omega) (fun k k1 k2 => by
      show z'.2.a k = u.a k
      rw [za, zA k (by omega), qa k (by omega), e22.2 k (by omega)]) (by show z'.2.i 59 = u.i 59; rw [zi 59 (by decide), zq 59 (by decide), e22.1]) (by show (u.i 11).toInt ≤ (z'.2.i 11).toInt; rw [zi 11 (by decide), zq 11 (by decide), e22.1]; exact Int.le_refl _) (by show (u.i 19).toInt ≤ (z'.2.i 19).toInt; rw [zi 19 (by decide), zq 19 (by decide), e22.1]; exact Int.le_refl _) (fun FC SF nm X ω j Z hω r12 hcc k cur => by
    obtain ⟨p12', ⟨v1, -, -, v3, pe3⟩, ⟨ct, pq, ⟨s1', s2'⟩, ⟨u1', u2'⟩, pe1, pe2⟩, ⟨st, hd, rp, -⟩, G', hci, hY, hX⟩ := k
    have p12 := pq.1
    have pw : pcR (RS.setI q0 52 w) = pcR q0 := rfl
    rw [pw] at v1 v3 pe3
    rw [pe1] at p12'
    have pS : (s.i 20 + 1).toInt = ((pcR s + 1 : Nat) : Int) := by
      have z1 : (s.i 20).toInt = ((pcR s : Nat) : Int) := (Int.toNat_of_nonneg p20.1).symm
      rw [ad1 p20.1 (by omega)]
      omega
    obtain ⟨p0, c0, l0, -⟩ := hd (S.o c1.2.1 10) (Or.inl ⟨Or.inr (Or.inr (Or.inl hr0)), rfl⟩)
    have q66 := (rp go).1 (Or.inr (Or.inr hr0))
    rw [r66] at q66
    have cq : (s.a 66 (ceT c1)).toInt = (((s.a 66 (ceT c1)).toInt.toNat : Nat) : Int) := (Int.toNat_of_nonneg q66).symm
    have bk : jbk G' ω (vw S s c1) j = j.en (jen G' ω (vw S s c1) j.h j.l) := if_pos hr0
    have cn : jcn G' ω (vw S s c1) j = (j.en (jen G' ω (vw S s c1) j.h j.l)).up 1264 := by
      unfold jcn
      rw [if_neg (by rw [hr0]; decide), bk]
    rw [pe1, pe3, pe2] at cur
    rw [pe2] at v1 v3
    have ex : ∀ Y : Als, S01 (GU FC SF U nm X) (GU FC SF U nm Y) → GU FC SF U nm Y (pcC S + 1) (pcR s + 1) j.h (ω + j.l - (pcC S + 1)) 0 (jen G' ω (vw S s c1) j.h j.l ++ j.c) := fun Y sy => gi_URwp ⟨⟨p12', by omega⟩, hci⟩ v3.1 ⟨v1, _, j.c, _, by rw [en]; rfl, rfl, sy _ _ _ _ _ _ (Nat.zero_le _) (cur rfl).1, Nat.le_refl _⟩
    refine lop_fin (jh := j.en (jen G' ω (vw S s c1) j.h j.l)) c0 l0 cq hY hX (fun Y h => by rw [← r66]; exact h.2.2.2.1 hr0) (fun Y sy hed => ⟨⟨fun z => absurd (hr0.symm.trans z) (by decide), fun z => absurd (hr0.symm.trans z) (by decide), fun z => absurd (hr0.symm.trans z) (by decide), fun z => absurd (hr0.symm.trans z) (by decide), fun z => absurd (hr0.symm.trans z) (by decide), fun _ => ⟨?_, ⟨_, _, c0, by rw [r66]; exact cq, l0, hed⟩⟩, fun z => absurd (hr0.symm.trans z) (by decide), fun z => absurd z nty, fun _ => noc.gl⟩, fun _ => ⟨fun fl => ?_, fun _ _ => ?_⟩, fun h1 => ?_⟩)
    · have e9 := st (s.a 66 (ceT c1)).toNatClampNeg ((si _).mpr c6)
      refine ⟨_, _, ct, ?_, ex Y sy⟩
      rw [r66, e9]
      exact pS
    · rw [bk]
      exact ⟨_, _, ct, pS, ex Y sy⟩
    · rw [cn]
      refine ⟨_, _, c0, cq, ?_⟩
      have z := hed.1
      rw [show ω + (j.en (jen G' ω (vw S s c1) j.h j.l)).l + 1264 - p0 = ω + ((j.en (jen G' ω (vw S s c1) j.h j.l)).up 1264).l - p0 by (show ω + j.l + 1264 - p0 = ω + (j.l + 1264) - p0; omega)] at z
      exact z
    · have jl : jlv (vw S s c1).v = 2528 := by rw [hr0]; rfl
      rw [jl]
      have hl : (j.en (jen G' ω (vw S s c1) j.h j.l)).l = j.l := rfl
      have z : ∀ g : Nat, GU FC SF U nm Y (pcC S) (pcR s) j.h (ω + (j.l + 2528) - pcC S) g (jen G' ω (vw S s c1) j.h j.l ++ j.c) := fun g => gi_UJmp (pq.hc hci) pq.2.1 ⟨s1', u1', p0, _, _, ⟨by rw [s2']; exact c0, by rw [u2']; exact cq⟩, by rw [hl]; omega, hed.1⟩
      exact ⟨z 0, z 1⟩)
  rw [clo_veq (hC.drop (by rw [h304]; unfold isTy; decide) (by rw [h304]; decide) (by rw [h304]; rfl) (by rw [h304]; rfl)).1 tp lk (fun j _ => by rw [aV, za, zA 40 (by omega), qa 40 (by omega)]) (fun y hy => by rw [oR]; exact (hin0.o ck.z y (List.mem_cons_of_mem _ hy)).1) (fun k t h1 h2 _ => by rw [aV, za, zA k (by omega), qa k (by omega)])]
  exact jr
