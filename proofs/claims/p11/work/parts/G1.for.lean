/-! reading: for: the loop's typing -/
theorem LAT.kpg {Z : Nat → Nat → Prop} {t : Nat} {s u w f : RS} (h1 : LAT Z s u w) (h : KP t w f) (hn : TN w) (hnew : ∀ (γ : Nat) (b : Bool) (L : List Nat) (k : Nat), goI w ≤ (γ : Int) → (γ : Int) < goI f → ISCH f (hd f b γ) L → k ∈ L → cdI w ≤ (k : Int)) : LAT Z s u f := by
  have h0 : LAT Z s w f := ⟨AGZ.of0 (AG0.kp h), fun k _ k2 z => by
    obtain ⟨γ, b, L, x1, x2, x3⟩ := z
    by_cases c : (γ : Int) < goI w
    · obtain ⟨M, m1, m2⟩ := hn γ b c
      obtain ⟨L1, c1, c2⟩ := h.2.2.2.2.2.2.2.1 γ b M c m1 m2
      have e := ISCH.uniq x2 c1
      rw [e] at x3
      rcases List.mem_append.mp x3 with r | r
      · have := (c2 k r).1; omega
      · exact ⟨γ, b, M, c, m1, r⟩
    · have := hnew γ b L k (by omega) x1 x2 x3; omega, h.2.2.2.2.1.1, h.2.2.2.2.2.1.2.1, fun j hj => by unfold gv; rw [h.2.2.2.2.1.2.2.2.1 j hj], fun j h1 h2 => (h.2.2.2.2.1.2.2.2.2.2 j h1 h2).1⟩
  exact h1.tr h0 (Int.le_refl _) (Int.le_refl _) (Int.le_refl _) (Int.le_refl _)
/-- an update's code: nothing is left -/
def TUP (s u : RS) : Prop := ∀ (f : RS) (C : Nat → Bool), AG0 s u f → AGC s u C → ∀ (h o v : Nat) (rs : List Rec), CX s h o v rs → COD f C (cdI s) h o v rs (fun g => ENB s u f g v rs ∧ FL f g v (cdI u) (cdI u) h o rs)
theorem TS.forl {t : Nat} {s A v1 U0 u1 B2 v2 W : RS} {xr xi xc xc' xb : Int32} {γ0 : Nat} {Lc Lb : List Nat} {jt : Prop} (hI0 : 0 ≤ cdI s) (kA : KP t s A) (cA : cdI A = cdI s) (A38 : A.i 38 = s.i 38) (A52 : A.i 52 = s.i 52) (fA : fr s ≤ fr A) (te : ¬ jt → TE A v1) (hjt : jt → cdI v1 = cdI A + 1 ∧ v1.a 21 (cdI A).toNat = 2 ∧ v1.a 22 (cdI A).toNat = 1) (k1 : KP t A v1) (i1 : INV v1) (d1 : v1.i 52 = s.i 52) (f1 : fr A ≤ fr v1) (f1' : fr s + 2 ≤ fr v1) (le1 : cdI A ≤ cdI v1)
  (kU : KP t v1 U0) (cU : cdI U0 = cdI v1 + 2) (U38 : U0.i 38 = s.i 38) (U52 : U0.i 52 = s.i 52) (fU : fr v1 ≤ fr U0) (tu : TUP U0 u1) (ku : KP t U0 u1) (fu1 : fr U0 ≤ fr u1) (kB1 : KP t v1 B2) (cB : cdI B2 = cdI u1 + 2) (B21q : B2.a 21 (cdI v1).toNat = 13) (B21r : B2.a 21 (cdI v1 + 1).toNat = 15) (B22r : B2.a 22 (cdI v1 + 1).toNat = xr) (hxr : xr.toInt = cdI u1 + 1) (B21u : B2.a 21 (cdI u1).toNat = 15) (B22u : B2.a 22 (cdI u1).toNat = xi) (hxi : xi.toInt = cdI A) (B21s : B2.a 21 (cdI u1 + 1).toNat = 1) (kB : KP t s B2) (B38 : B2.i 38 = s.i 38) (B52 : B2.i 52 = s.i 52) (fB : fr u1 ≤ fr B2) (g0 : (γ0 : Int) = goI s) (gv1 : goI v1 = goI s) (gB : goI B2 = goI s + 1) (B44 : B2.a 44 γ0 = 0) (B47 : gv B2 47 γ0 = deI s) (bB : ∀ b : Bool, hd B2 b γ0 = -1)
  (ts : TS B2 v2) (k2 : KP t B2 v2) (i2 : INV v2) (s2 : SAME B2 v2) (f2 : fr B2 ≤ fr v2) (L2u : LAT noZ U0 u1 v2) (hpp : PPR γ0 Lc Lb xc xb (fun k => k = (cdI v1).toNat) v2 W) (cW : cdI W = cdI v2 + 1) (hxc : xc.toInt = cdI U0) (hxb : xb.toInt = cdI W) (W1 : W.a 22 (cdI v1).toNat = xb) (W2 : W.a 21 (cdI v2).toNat = 15) (W3 : W.a 22 (cdI v2).toNat = xc') (hxc' : xc'.toInt = cdI U0) (hw : ∀ w : Nat, (w : Int) < waI v2 → gv v2 58 w ≤ γ0) (hr0 : ¬ jt → W.i 75 = 1) (hrb : v2.a 50 γ0 = 1 → W.i 75 = 1) (hse : seI v1 ≤ seI W) (w18 : W.i 18 = v2.i 18) (wf : ∀ k : Nat, 64 ≤ k → k ≤ 73 → bel k t v2 W) : TS s W := by
  intro f C hA hC h o lv rs hx hy
  have c1' := i1.cd
  have c2' := i2.cd
  have fv1 := i1.1.f0
  have fv2 := i2.1.f0
  have leu := ku.2.1.1
  have le2 := k2.2.1.1
  have ekA : ((cdI A).toNat : Int) = cdI A := Int.toNat_of_nonneg (by omega)
  have ekq : ((cdI v1).toNat : Int) = cdI v1 := Int.toNat_of_nonneg c1'.1
  have ekr : ((cdI v1 + 1).toNat : Int) = cdI v1 + 1 := Int.toNat_of_nonneg (by omega)
  have eku : ((cdI u1).toNat : Int) = cdI u1 := Int.toNat_of_nonneg (by omega)
  have eks : ((cdI u1 + 1).toNat : Int) = cdI u1 + 1 := Int.toNat_of_nonneg (by omega)
  have ek2 : ((cdI v2).toNat : Int) = cdI v2 := Int.toNat_of_nonneg c2'.1
  have t2 := i2.2.2.2.1
  have ns : ∀ k : Nat, k ∈ Lc ∨ k ∈ Lb → cdI B2 ≤ (k : Int) := fun k hk => by
    rcases hk with hk | hk
    · exact (new_sites k2 bB (by omega) hpp.2.2.2.2.1 k hk).1
    · exact (new_sites k2 bB (by omega) hpp.2.2.2.2.2.1 k hk).1
  have kv1W : KP t v1 W := (kB1.tr k2 (Nat.le_refl _)).ppr hpp t2 (by omega) hse w18 (fun k hk => by
    rcases hk with q | q | q
    · have := ns k (Or.inl q); omega
    · have := ns k (Or.inr q); omega
    · omega) wf
  have gW : goI W = goI v1 := by have := hpp.2.2.1; omega
  have L1 : LAT noZ A v1 W := (LAT.rf noZ A v1).kp kv1W i1.tn (by omega)
  have LU : LAT noZ U0 u1 W := hpp.lat t2 L2u (fun k h1 h2 e => by
    have e : k = (cdI v1).toNat := e
    omega)
  have L2 : LAT noZ B2 v2 W := hpp.lat t2 (LAT.rf noZ B2 v2) (fun k h1 h2 e => by
    have e : k = (cdI v1).toNat := e
    omega)
  have ksU : KP t s U0 := (kA.tr k1 (Nat.le_refl _)).tr kU (Nat.le_refl _)
  obtain ⟨A1, C1⟩ := L1.use hA hC kA k1
  obtain ⟨AU, CU⟩ := LU.use hA hC ksU ku
  obtain ⟨A2, C2⟩ := L2.use hA hC kB k2
  have hx2 := hx.2.1
  have hx4 := hx.2.2.2.1
  have kg := kB.2.2.2.2.2.2.1
  have y2 : YE B2 rs := hy.push gB g0 kg.2.1 kg.2.2.1 (by rw [B44]; decide)
  have c2 := ts f C A2 C2 h o (lv + 2) rs (hx.upv h (lv + 2) B52 (by omega) (by omega) (by omega) (by omega)) y2
  have cu := tu f C AU CU h o (lv + 1) rs (hx.upv h (lv + 1) U52 (by omega) (by omega) (by omega) (by omega))
  have w21 : ∀ k : Nat, (k : Int) < cdI B2 → W.a 21 k = B2.a 21 k := fun k hk => by rw [(hpp.2.2.2.2.2.2.1 k (by omega)).1, k2.2.1.2.1 k hk]
  have w22 : ∀ k : Nat, (k : Int) < cdI B2 → k ≠ (cdI v1).toNat → W.a 22 k = B2.a 22 k := fun k hk hne => by
    rw [hpp.2.2.2.2.2.2.2.1 k (by omega) (fun q => by have := ns k (Or.inl q); omega) (fun q => by have := ns k (Or.inr q); omega) hne, k2.2.1.2.2.1 k hk]
  obtain ⟨p1, p2, p3, p4⟩ := hA.cell (k := (cdI v1).toNat) (o := 13) (x := xb) (by omega) (by omega) (by rw [w21 _ (by omega)]; exact B21q) W1 (by decide)
  obtain ⟨q1, q2, q3, q4⟩ := hA.cell (k := (cdI v1 + 1).toNat) (o := 15) (x := xr) (by omega) (by omega) (by rw [w21 _ (by omega)]; exact B21r) (by rw [w22 _ (by omega) (by omega)]; exact B22r) (by decide)
  obtain ⟨u1', u2', u3', u4'⟩ := hA.cell (k := (cdI u1).toNat) (o := 15) (x := xi) (by omega) (by omega) (by rw [w21 _ (by omega)]; exact B21u) (by rw [w22 _ (by omega) (by omega)]; exact B22u) (by decide)
  obtain ⟨s1', s2', s3', s4'⟩ := hA.cell (k := (cdI u1 + 1).toNat) (o := 1) (by omega) (by omega) (by rw [w21 _ (by omega)]; exact B21s) rfl (by decide)
  obtain ⟨r1, r2, r3, r4⟩ := hA.cell (k := (cdI v2).toNat) (o := 15) (x := xc') (by omega) (by omega) W2 W3 (by decide)
  have d47 : (gv v2 47 γ0).toNat = rs.length := by
    have kg2 := k2.2.2.2.2.2.2.1
    have e : gv v2 47 γ0 = gv B2 47 γ0 := by unfold gv; rw [kg2.2.2.1 γ0 (by omega)]
    have := hx.1
    omega
  have v2d : v2.i 52 = s.i 52 := s2.2.2.1.trans B52
  have upd : COD f C (cdI U0) h o (lv + 1) rs (fun g => ENS s W f h o lv rs g ∧ FL f g lv (cdI A) (cdI A) h o rs) := by
    have cJ : COD f C (cdI u1).toNat h o (lv + 1) rs (fun g => ENS s W f h o lv rs g ∧ FL f g lv (cdI A) (cdI A) h o rs) := by
      refine COD.ins (hx.upv h (lv + 1) B52 (by omega) (by omega) (by omega) (by omega)) u4' (fun g _ hE => ⟨?_, (hE.1.1.1 _ (by omega)).mono (Nat.le_refl _) (by omega)⟩)
      have hF2 : FL f g (lv + 1) (((cdI u1).toNat : Int) + 1) (gv f 22 (cdI u1).toNat) h o rs := by
        rw [u2', hxi]
        exact hE.2.to (Or.inl (by omega))
      exact okJ_15 (c := (h, o, lv + 1, false, rs)) u1' hF2
    exact COD.seq cu cJ (fun g _ hE => hE) (fun g _ hE hF => ⟨⟨fun k hk => (hE.1.1.1 k (by omega)).mono (Nat.le_refl _) (by omega), (hE.1.1.mid ksU U38 (by omega) : ENB U0 u1 f g lv rs).2⟩, by rw [eku] at hF; exact hF⟩)
  have body : COD f C ((cdI u1 + 1).toNat) h o lv rs (fun g => ENS s W f h o lv rs g ∧ FL f g (lv + 1) (cdI U0) (cdI U0) h o rs) := by
    have env : ∀ g : Gh, ENS s W f h o lv rs g → FL f g (lv + 1) (cdI U0) (cdI U0) h o rs → (v2.i 75 = 1 → FL f g (lv + 2) (cdI v2) (cdI v2) h o rs) → ENS B2 v2 f h o (lv + 2) rs g := fun g hE hFA hx' => by
      refine ⟨⟨fun k hk => (hE.1.1 k (by omega)).mono (Nat.le_refl _) (by omega), (hE.1.mid kB B38 (by omega) : ENB B2 v2 f g lv rs).2⟩, hx', ?_⟩
      exact EJ.loop (lc := lv + 1) hE.2.2 hpp t2 hA (by omega) (by omega) (by omega) d47 hw (fun _ => by rw [hxc]; exact hFA) (fun q => by rw [hxb]; exact hE.2.1 (hrb q))
    have rest2 : COD f C (((cdI u1 + 1).toNat : Int) + 1) h o (lv + 2) rs (fun g => ENS s W f h o lv rs g ∧ FL f g (lv + 1) (cdI U0) (cdI U0) h o rs) := by
      have e : (((cdI u1 + 1).toNat : Int) + 1) = cdI B2 := by omega
      rw [e]
      by_cases cr : v2.i 75 = 1
      · have cJ : COD f C (cdI v2).toNat h o (lv + 2) rs (fun g => ENS s W f h o lv rs g ∧ FL f g (lv + 1) (cdI U0) (cdI U0) h o rs) := by
          refine COD.ins (hx.upv h (lv + 2) v2d (by omega) (by omega) (by omega) (by omega)) r4 (fun g _ hE => ⟨?_, (hE.1.1.1 _ (by omega)).mono (Nat.le_refl _) (by omega)⟩)
          have hF2 : FL f g (lv + 2) (((cdI v2).toNat : Int) + 1) (gv f 22 (cdI v2).toNat) h o rs := by
            rw [r2, hxc']
            exact hE.2.to (Or.inl (by omega))
          exact okJ_15 (c := (h, o, lv + 2, false, rs)) r1 hF2
        exact COD.seq c2 cJ (fun g _ hE => hE) (fun g _ hE hF => env g hE.1 hE.2 (fun _ => by rw [ek2] at hF; exact hF))
      · exact c2.imp (fun g _ hE => env g hE.1 hE.2 (fun q => absurd q cr))
    exact COD.stp (s := B2) (hx.upv h lv B52 (by omega) (by omega) (by omega) (by omega)) s4' s1' (fun g _ hE => hE.1.1.1 _ (by omega)) rest2
  have jr : COD f C (cdI v1 + 1).toNat h o lv rs (fun g => ENS s W f h o lv rs g ∧ FL f g lv (cdI A) (cdI A) h o rs) := by
    have j0 : COD f C (cdI v1 + 1).toNat h o lv rs (fun g => (ENS s W f h o lv rs g ∧ FL f g (lv + 1) (cdI U0) (cdI U0) h o rs) ∧ FL f g lv (cdI u1 + 1) (cdI u1 + 1) h o rs) := by
      refine COD.ins (hx.upv h lv d1 (by omega) (by omega) (by omega) (by omega)) q4 (fun g _ hE => ⟨?_, hE.1.1.1.1 _ (by omega)⟩)
      have hF2 : FL f g lv (((cdI v1 + 1).toNat : Int) + 1) (gv f 22 (cdI v1 + 1).toNat) h o rs := by
        rw [q2, hxr]
        exact hE.2.mono (Nat.le_refl _) (by omega)
      exact okJ_15 (c := (h, o, lv, false, rs)) q1 hF2
    have j1 : COD f C (cdI v1 + 1).toNat h o lv rs (fun g => ENS s W f h o lv rs g ∧ FL f g (lv + 1) (cdI U0) (cdI U0) h o rs) := COD.seq j0 body (fun g _ hE => hE) (fun g _ hE hF => ⟨hE, by rw [eks] at hF; exact hF⟩)
    exact COD.seq j1 upd (fun g _ hE => hE) (fun g _ hE hF => ⟨hE.1, hF⟩)
  rw [← cA]
  by_cases hj : jt
  · obtain ⟨j1, j2, j3⟩ := hjt hj
    have wA1 : W.a 21 (cdI A).toNat = 2 := by rw [kv1W.2.1.2.1 _ (by omega)]; exact j2
    have wA2 : W.a 22 (cdI A).toNat = 1 := by rw [kv1W.2.1.2.2.1 _ (by omega)]; exact j3
    obtain ⟨m1, m2, m3, m4⟩ := hA.cell (k := (cdI A).toNat) (o := 2) (x := 1) (by omega) (by omega) wA1 wA2 (by decide)
    have eA1 : (cdI A).toNat + 1 = (cdI v1).toNat := by omega
    have head := CODS.pj (s := v1) (f := f) (C := C) (k := (cdI A).toNat) (h := h) (o := o) (v := lv) (rs := rs) (E := fun g => ENS s W f h o lv rs g ∧ FL f g lv (cdI v1 + 1) (cdI v1 + 1) h o rs) (hx.upv h lv d1 (by omega) (by omega) (by omega) (by omega)) (hx.upv (h + 1) lv d1 (by omega) (by omega) (by omega) (by omega)) (by omega) m1 m2 (by rw [eA1]; exact p1) (fun g _ hE => ⟨hE.1.1.1 _ (by omega), hE.1.1.1 _ (by omega), by
      have e : ((cdI A).toNat : Int) + 2 = cdI v1 + 1 := by omega
      rw [e]; exact hE.2⟩)
    rw [ekA] at head
    exact (head.loop jr (fun g _ hE hF => ⟨hE, hF⟩) (fun g _ hE _ hF => ⟨hE, by rw [ekr] at hF; exact hF⟩)).cod
  · have c1 := te hj f C A1 C1 h o lv rs (hx.up h A52 fA (by omega) (by omega))
    have cz : COD f C (cdI v1).toNat (h + 1) o lv rs (fun g => ENS s W f h o lv rs g ∧ FL f g lv (cdI A) (cdI A) h o rs) := by
      have c13 : COD f C (cdI v1).toNat (h + 1) o lv rs (fun g => (ENS s W f h o lv rs g ∧ FL f g lv (cdI A) (cdI A) h o rs) ∧ FL f g lv (cdI v1 + 1) (cdI v1 + 1) h o rs) := by
        refine COD.ins (hx.upv (h + 1) lv d1 (by omega) (by omega) (by omega) (by omega)) p4 (fun g _ hE => ⟨?_, hE.1.1.1.1 _ (by omega)⟩)
        have hF1 : FL f g lv (((cdI v1).toNat : Int) + 1) (((cdI v1).toNat : Int) + 1) h o rs := by rw [ekq]; exact hE.2
        have hF2 : FL f g lv (((cdI v1).toNat : Int) + 1) (gv f 22 (cdI v1).toNat) h o rs := by
          rw [p2, hxb]
          exact (hE.1.1.2.1 (hr0 hj)).mono (Nat.le_refl _) (by omega)
        exact okJ_13 (c := (h + 1, o, lv, false, rs)) p1 ⟨by show 1 ≤ h + 1; omega, fun _ => hF2, hF1⟩
      exact COD.seq c13 jr (fun g _ hE => hE) (fun g _ hE hF => ⟨hE, by rw [ekr] at hF; exact hF⟩)
    exact (c1.loop cz (fun g _ hE hF => ⟨hE, hF⟩) (fun g _ hE _ hF => ⟨hE.1.mid kA A38 (by omega), by rw [ekq] at hF; exact hF⟩)).cod
