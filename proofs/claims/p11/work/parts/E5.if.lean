/-! reading: if -/
theorem TS.if1 {t : Nat} {s A v1 B2 v2 W : RS} {x9 : Int32} (hI : INV s) (kA : KP t s A) (cA : cdI A = cdI s + 1) (A21 : A.a 21 (cdI s).toNat = 1) (A38 : A.i 38 = s.i 38) (A52 : A.i 52 = s.i 52) (fA : fr s ≤ fr A) (te : TE A v1) (k1 : KP t A v1) (i1 : INV v1) (d1 : v1.i 52 = s.i 52) (f1 : fr A + 1 ≤ fr v1) (kB : KP t v1 B2) (cB : cdI B2 = cdI v1 + 1) (B21 : B2.a 21 (cdI v1).toNat = 13) (B38 : B2.i 38 = s.i 38) (sB : SAME s B2) (fB : fr v1 ≤ fr B2) (gB : goI v1 = goI s) (ts : TS B2 v2) (k2 : KP t B2 v2) (i2 : INV v2) (s2 : SAME B2 v2) (f2 : fr B2 ≤ fr v2) (hx9 : x9.toInt = cdI v2) (hW : TBS (v2.setA 22 (cdI v1).toNat x9) W) (hr : W.i 75 = 1) : TS s W := by
  intro f C hA hC h o lv rs hx hy
  have cs := hI.cd
  have c1' := i1.cd
  have fv1 := i1.1.f0
  have fv2 := i2.1.f0
  have le1 := k1.2.1.1
  have le2 := k2.2.1.1
  have ek : ((cdI v1).toNat : Int) = cdI v1 := Int.toNat_of_nonneg c1'.1
  have e21 : v2.a 21 (cdI v1).toNat = 13 := by rw [k2.2.1.2.1 _ (by omega)]; exact B21
  have no : ¬ v2.a 21 (cdI v1).toNat = 36 := by rw [e21]; decide
  have tnh : TN (v2.setA 22 (cdI v1).toNat x9) := i2.tn.hole no
  have cW : cdI W = cdI v2 := hW.cd
  have gW : goI W = goI v2 := hW.go
  have g2 : goI v2 = goI B2 := s2.go
  have gs : goI B2 = goI s := sB.go
  have L1 : LAT noZ A v1 W := ((((LAT.rf noZ A v1).kp (kB.tr k2 (Nat.le_refl _)) i1.tn (by omega)).hole no (Or.inr (Or.inl (by omega)))).tbs hW tnh)
  have L2 : LAT noZ B2 v2 W := (((LAT.rf noZ B2 v2).hole no (Or.inl (by omega))).tbs hW tnh)
  have ksB : KP t s B2 := (kA.tr k1 (Nat.le_refl _)).tr kB (Nat.le_refl _)
  obtain ⟨A1, C1⟩ := L1.use hA hC kA k1
  obtain ⟨A2, C2⟩ := L2.use hA hC ksB k2
  have stg : STG v2 W := (STG.hole no).tr (STG.tbs hW)
  have hx2 := hx.2.1
  have c1 := te f C A1 C1 h o lv rs (hx.up h A52 fA (by omega) (by omega))
  have kg := ksB.2.2.2.2.2.2.1
  have c2 := ts f C A2 C2 h o lv rs (hx.up h sB.2.2.1 (by omega) (by omega) (by omega)) (hy.of gs kg.2.1 kg.2.2.1)
  obtain ⟨g1, g2', g3, g4⟩ := hA.cell (k := (cdI v1).toNat) (o := 13) (x := x9) (by omega) (by omega) (by rw [hW.2.1 21 (by decide) (by decide)]; exact e21) (by rw [hW.2.1 22 (by decide) (by decide)]; exact setA_at) (by decide)
  have c13 : COD f C (cdI v1).toNat (h + 1) o lv rs (fun g => ENS s W f h o lv rs g ∧ FL f g lv (cdI B2) (cdI B2) h o rs) := by
    refine COD.ins (hx.up (h + 1) d1 (by omega) (by omega) (by omega)) g4 (fun g _ hE => ⟨?_, hE.1.1.1 _ (by omega)⟩)
    have hF1 : FL f g lv (((cdI v1).toNat : Int) + 1) (((cdI v1).toNat : Int) + 1) h o rs := by
      have := hE.2
      rw [cB] at this
      rw [ek]; exact this
    have hF2 : FL f g lv (((cdI v1).toNat : Int) + 1) (gv f 22 (cdI v1).toNat) h o rs := by
      rw [g2', hx9, ← cW]
      exact (hE.1.2.1 hr).mono (Nat.le_refl _) (by omega)
    exact okJ_13 (c := (h + 1, o, lv, false, rs)) g1 ⟨by show 1 ≤ h + 1; omega, fun _ => hF2, hF1⟩
  have c132 : COD f C (cdI v1).toNat (h + 1) o lv rs (ENS s W f h o lv rs) := COD.seq c13 c2 (fun g _ hE => ⟨hE.1.mid ksB B38 (by omega), fun _ => by rw [← cW]; exact hE.2.1 hr, hE.2.2.stg stg i2.tn (by omega) (Nat.le_refl _) gW⟩) (fun g _ hE hF => ⟨hE, hF⟩)
  have rest : COD f C (cdI s + 1) h o lv rs (ENS s W f h o lv rs) := by
    rw [← cA]
    exact COD.seq c1.cod c132 (fun g _ hE => hE) (fun g _ hE hF => ⟨hE.1.mid kA A38 (by omega), by rw [ek] at hF; exact hF⟩)
  refine COD.step hA hx cs.1 (by omega) ?_ (fun g _ hE => hE.1.1) rest
  rw [hW.2.1 21 (by decide) (by decide)]
  show v2.a 21 (cdI s).toNat = 1
  rw [k2.2.1.2.1 _ (by omega), kB.2.1.2.1 _ (by omega), k1.2.1.2.1 _ (by omega)]
  exact A21
theorem TS.if2 {t : Nat} {s A v1 B2 v2 D2 D3 v3 W : RS} {x8 x9 : Int32} (hI : INV s) (kA : KP t s A) (cA : cdI A = cdI s + 1) (A21 : A.a 21 (cdI s).toNat = 1) (A38 : A.i 38 = s.i 38) (A52 : A.i 52 = s.i 52) (fA : fr s ≤ fr A) (te : TE A v1) (k1 : KP t A v1) (i1 : INV v1) (d1 : v1.i 52 = s.i 52) (f1 : fr A + 1 ≤ fr v1) (kB : KP t v1 B2) (cB : cdI B2 = cdI v1 + 1) (B21 : B2.a 21 (cdI v1).toNat = 13) (B38 : B2.i 38 = s.i 38) (sB : SAME s B2) (fB : fr v1 ≤ fr B2) (gB : goI v1 = goI s) (ts : TS B2 v2) (k2 : KP t B2 v2) (i2 : INV v2) (s2 : SAME B2 v2) (n2 : SNW s v2) (f2 : fr B2 ≤ fr v2)
  (kD : KP t v2 D2) (cD : cdI D2 = cdI v2 + 1) (D21 : D2.a 21 (cdI v2).toNat = 15) (sD : SAME v2 D2) (tD : TN D2) (fD : fr v2 ≤ fr D2) (D38 : D2.i 38 = v2.i 38) (D40 : D2.a 40 = v2.a 40) (D41 : D2.a 41 = v2.a 41) (hx8 : x8.toInt = cdI D2) (hD3 : TBS (D2.setA 22 (cdI v1).toNat x8) D3) (D38' : D3.i 38 = D2.i 38) (f3' : fr D3 = fr D2) (s3' : SAME D2 D3) (ts3 : TS D3 v3) (k3 : KP t D3 v3) (i3 : INV v3) (s3 : SAME D3 v3) (f3 : fr D3 ≤ fr v3) (hx9 : x9.toInt = cdI v3) (hW : TBS (v3.setA 22 (cdI v2).toNat x9) W) (hr2 : v2.i 75 = 1 → W.i 75 = 1) (hr3 : v3.i 75 = 1 → W.i 75 = 1) (kD3 : KP t s D3) (eD : bel 40 (seI v2) v2 D3 ∧ bel 41 (seI v2) v2 D3) : TS s W := by
  intro f C hA hC h o lv rs hx hy
  have cs := hI.cd
  have c1' := i1.cd
  have c2' := i2.cd
  have fv1 := i1.1.f0
  have fv2 := i2.1.f0
  have fv3 := i3.1.f0
  have le1 := k1.2.1.1
  have le2 := k2.2.1.1
  have le3 := k3.2.1.1
  have ek1 : ((cdI v1).toNat : Int) = cdI v1 := Int.toNat_of_nonneg c1'.1
  have ek2 : ((cdI v2).toNat : Int) = cdI v2 := Int.toNat_of_nonneg c2'.1
  have e21 : v2.a 21 (cdI v1).toNat = 13 := by rw [k2.2.1.2.1 _ (by omega)]; exact B21
  have eD21 : D2.a 21 (cdI v1).toNat = 13 := by rw [kD.2.1.2.1 _ (by omega)]; exact e21
  have no1 : ¬ D2.a 21 (cdI v1).toNat = 36 := by rw [eD21]; decide
  have cD3 : cdI D3 = cdI v2 + 1 := by rw [hD3.cd]; exact cD
  have e3a : v3.a 21 (cdI v1).toNat = 13 := by
    rw [k3.2.1.2.1 _ (by omega), hD3.2.1 21 (by decide) (by decide)]; exact eD21
  have e3b : v3.a 21 (cdI v2).toNat = 15 := by
    rw [k3.2.1.2.1 _ (by omega), hD3.2.1 21 (by decide) (by decide)]; exact D21
  have e3x : v3.a 22 (cdI v1).toNat = x8 := by
    rw [k3.2.1.2.2.1 _ (by omega), hD3.2.1 22 (by decide) (by decide)]; exact setA_at
  have no2 : ¬ v3.a 21 (cdI v2).toNat = 36 := by rw [e3b]; decide
  have tnD : TN (D2.setA 22 (cdI v1).toNat x8) := tD.hole no1
  have tnD3 : TN D3 := tnD.tbs hD3
  have tn3 : TN (v3.setA 22 (cdI v2).toNat x9) := i3.tn.hole no2
  have cW : cdI W = cdI v3 := hW.cd
  have gW : goI W = goI v3 := hW.go
  have g2 : goI v2 = goI B2 := s2.go
  have gs : goI B2 = goI s := sB.go
  have gD : goI D2 = goI v2 := sD.go
  have gD3 : goI D3 = goI D2 := hD3.go
  have g3 : goI v3 = goI D3 := s3.go
  have L1 : LAT noZ A v1 W := ((((((((LAT.rf noZ A v1).kp (kB.tr k2 (Nat.le_refl _)) i1.tn (by omega)).kp kD i2.tn (by omega)).hole no1 (Or.inr (Or.inl (by omega)))).tbs hD3 tnD).kp k3 tnD3 (by omega)).hole no2 (Or.inr (Or.inl (by omega)))).tbs hW tn3)
  have L2 : LAT noZ B2 v2 W := (((((((LAT.rf noZ B2 v2).kp kD i2.tn (by omega)).hole no1 (Or.inl (by omega))).tbs hD3 tnD).kp k3 tnD3 (by omega)).hole no2 (Or.inr (Or.inl (by omega)))).tbs hW tn3)
  have L3 : LAT noZ D3 v3 W := (((LAT.rf noZ D3 v3).hole no2 (Or.inl (by omega))).tbs hW tn3)
  have ksB : KP t s B2 := (kA.tr k1 (Nat.le_refl _)).tr kB (Nat.le_refl _)
  have ksv2 : KP t s v2 := ksB.tr k2 (Nat.le_refl _)
  obtain ⟨A1, C1⟩ := L1.use hA hC kA k1
  obtain ⟨A2, C2⟩ := L2.use hA hC ksB k2
  obtain ⟨A3, C3⟩ := L3.use hA hC kD3 k3
  have stg3 : STG v3 W := (STG.hole no2).tr (STG.tbs hW)
  have stg2 : STG v2 W := ((((STG.kp kD gD sD.wa).tr (STG.hole no1)).tr (STG.tbs hD3)).tr (STG.kp k3 g3 s3.wa)).tr stg3
  have hx2 := hx.2.1
  have kg := ksB.2.2.2.2.2.2.1
  have kg3 := kD3.2.2.2.2.2.2.1
  have sD3 : SAME s D3 := ((sB.tr s2).tr sD).tr s3'
  have c1 := te f C A1 C1 h o lv rs (hx.up h A52 fA (by omega) (by omega))
  have c2 := ts f C A2 C2 h o lv rs (hx.up h sB.2.2.1 (by omega) (by omega) (by omega)) (hy.of gs kg.2.1 kg.2.2.1)
  have c3 := ts3 f C A3 C3 h o lv rs (hx.up h sD3.2.2.1 (by omega) (by omega) (by omega)) (hy.of sD3.go kg3.2.1 kg3.2.2.1)
  obtain ⟨p1, p2, p3, p4⟩ := hA.cell (k := (cdI v1).toNat) (o := 13) (x := x8) (by omega) (by omega) (by rw [hW.2.1 21 (by decide) (by decide)]; exact e3a) (by rw [hW.2.1 22 (by decide) (by decide)]; exact (setA_ne (by omega)).trans e3x) (by decide)
  obtain ⟨q1, q2, q3, q4⟩ := hA.cell (k := (cdI v2).toNat) (o := 15) (x := x9) (by omega) (by omega) (by rw [hW.2.1 21 (by decide) (by decide)]; exact e3b) (by rw [hW.2.1 22 (by decide) (by decide)]; exact setA_at) (by decide)
  have env3 : ∀ g : Gh, g.isC = C → ENS s W f h o lv rs g → ENS D3 v3 f h o lv rs g := fun g hg hE => by
    refine ⟨⟨fun k hk => hE.1.1 k (by omega), fun y hy' => ?_⟩, fun q => by rw [← cW]; exact hE.2.1 (hr3 q), hE.2.2.stg stg3 i3.tn (by omega) (Nat.le_refl _) gW⟩
    have ese : seI D3 = seI v2 := by unfold seI; rw [D38', D38]
    have nb := (ENB.nx (u1 := v2) (w := v2) (⟨fun k hk => hE.1.1 k (by omega), hE.1.2⟩ : ENB s v2 f g lv rs) hg (hC.mid (KP.rf t s) ksv2 L2.2.2.2.1 L2.2.2.1 L2.2.2.2.2.1 L2.2.2.2.2.2) ksv2 (KP.rf t v2) n2 i2.2.2.2.1 hI.2.2.2.1).2 y (by omega)
    unfold gv at nb ⊢
    rw [eD.1 y (by omega), eD.2 y (by omega)]
    exact nb
  have X : COD f C (cdI B2) h o lv rs (ENS s W f h o lv rs) := by
    by_cases cr : v2.i 75 = 1
    · have cJ : COD f C (cdI v2).toNat h o lv rs (ENS s W f h o lv rs) := by
        refine COD.ins (hx.up h (sB.tr s2).2.2.1 (by omega) (by omega) (by omega)) q4 (fun g _ hE => ⟨?_, hE.1.1 _ (by omega)⟩)
        have hF2 : FL f g lv (((cdI v2).toNat : Int) + 1) (gv f 22 (cdI v2).toNat) h o rs := by
          rw [q2, hx9, ← cW]
          exact (hE.2.1 (hr2 cr)).mono (Nat.le_refl _) (by omega)
        exact okJ_15 (c := (h, o, lv, false, rs)) q1 hF2
      exact COD.seq c2 cJ (fun g _ hE => hE) (fun g _ hE hF => ⟨hE.1.mid ksB B38 (by omega), fun _ => by rw [ek2] at hF; exact hF, hE.2.2.stg stg2 i2.tn (by omega) (Nat.le_refl _) (by omega)⟩)
    · exact c2.imp (fun g _ hE => ⟨hE.1.mid ksB B38 (by omega), fun q => absurd q cr, hE.2.2.stg stg2 i2.tn (by omega) (Nat.le_refl _) (by omega)⟩)
  have c13 : COD f C (cdI v1).toNat (h + 1) o lv rs (fun g => (ENS s W f h o lv rs g ∧ FL f g lv (cdI D3) (cdI D3) h o rs) ∧ FL f g lv (cdI B2) (cdI B2) h o rs) := by
    refine COD.ins (hx.up (h + 1) d1 (by omega) (by omega) (by omega)) p4 (fun g _ hE => ⟨?_, hE.1.1.1.1 _ (by omega)⟩)
    have hF1 : FL f g lv (((cdI v1).toNat : Int) + 1) (((cdI v1).toNat : Int) + 1) h o rs := by
      have := hE.2
      rw [cB] at this
      rw [ek1]; exact this
    have hF2 : FL f g lv (((cdI v1).toNat : Int) + 1) (gv f 22 (cdI v1).toNat) h o rs := by
      rw [p2, hx8, cD, ← cD3]
      exact hE.1.2.mono (Nat.le_refl _) (by omega)
    exact okJ_13 (c := (h + 1, o, lv, false, rs)) p1 ⟨by show 1 ≤ h + 1; omega, fun _ => hF2, hF1⟩
  have c13b : COD f C (cdI v1).toNat (h + 1) o lv rs (fun g => ENS s W f h o lv rs g ∧ FL f g lv (cdI D3) (cdI D3) h o rs) := COD.seq c13 X (fun g _ hE => hE.1) (fun g _ hE hF => ⟨hE, hF⟩)
  have c132 : COD f C (cdI v1).toNat (h + 1) o lv rs (ENS s W f h o lv rs) := COD.seq c13b c3 env3 (fun g _ hE hF => ⟨hE, hF⟩)
  have rest : COD f C (cdI s + 1) h o lv rs (ENS s W f h o lv rs) := by
    rw [← cA]
    exact COD.seq c1.cod c132 (fun g _ hE => hE) (fun g _ hE hF => ⟨hE.1.mid kA A38 (by omega), by rw [ek1] at hF; exact hF⟩)
  refine COD.step hA hx cs.1 (by omega) ?_ (fun g _ hE => hE.1.1) rest
  rw [hW.2.1 21 (by decide) (by decide)]
  show v3.a 21 (cdI s).toNat = 1
  rw [k3.2.1.2.1 _ (by omega), hD3.2.1 21 (by decide) (by decide)]
  show D2.a 21 (cdI s).toNat = 1
  rw [kD.2.1.2.1 _ (by omega), k2.2.1.2.1 _ (by omega), kB.2.1.2.1 _ (by omega), k1.2.1.2.1 _ (by omega)]
  exact A21
