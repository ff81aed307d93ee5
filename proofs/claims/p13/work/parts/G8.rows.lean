section
/-! reading: for over rows: typing -/
/-- values one behind the other -/
def TEN (n : Nat) (s u : RS) : Prop := ∀ (f : RS) (C : Nat → Bool), AG0 s u f → AGC s u C → ∀ (h o v : Nat) (rs : List Rec), CX s h o v rs → COD f C (cdI s) h o v rs (fun g => ENB s u f g v rs ∧ FL f g v (cdI u) (cdI u) (h + n) o rs)
theorem TEN.one {s u : RS} (h : TE s u) : TEN 1 s u := fun f C hA hC h9 o v rs hx => (h f C hA hC h9 o v rs hx).cod
theorem TEN.snoc {t n : Nat} {s u u2 w : RS} (h1 : TEN n s u) (k1 : KP t s u) (tn : TN u) (k2 : KP t u u2) (h3 : TE u2 w) (k3 : KP t u2 w) (tn3 : TN w) (c2 : cdI u2 = cdI u) (hg : goI w = goI u) (e38 : u2.i 38 = s.i 38) (d2 : u2.i 52 = s.i 52) (f2 : fr s + n ≤ fr u2) (f9 : fr u2 ≤ 900) : TEN (n + 1) s w := by
  intro f C hA hC h o v rs hx
  obtain ⟨A1, C1⟩ := AG.mid hA hC (KP.rf t s) k1 (k2.tr k3 (Nat.le_refl _)) tn (by omega)
  obtain ⟨A2, C2⟩ := AG.mid hA hC (k1.tr k2 (Nat.le_refl _)) k3 (KP.rf t w) tn3 (Int.le_refl _)
  have hx2 := hx.2.1
  have q1 := h1 f C A1 C1 h o v rs hx
  have q2 := (h3 f C A2 C2 (h + n) o v rs (hx.up (h + n) d2 (by omega) (by omega) (by omega))).cod
  have le3 := k3.2.1.1
  refine COD.seq q1 q2 (fun g _ hE => ⟨hE.1.mid (k1.tr k2 (Nat.le_refl _)) e38 (Int.le_refl _), ?_⟩) (fun g _ hE hF => ⟨hE.1.mid (KP.rf t s) rfl (by omega), by rw [c2] at hF; exact hF⟩)
  have e : h + n + 1 = h + (n + 1) := by omega
  rw [e]
  exact hE.2
theorem TS.rows {t n : Nat} {s A v1 Q B2 v2 W : RS} {xn xs xc xc' xb : Int32} {γ0 : Nat} {Lc Lb : List Nat} (hI : INV s) (kA : KP t s A) (cA : cdI A = cdI s + 1) (A21 : A.a 21 (cdI s).toNat = 1) (A38 : A.i 38 = s.i 38) (A52 : A.i 52 = s.i 52) (fA : fr s ≤ fr A) (fA9 : fr A ≤ fr v1) (n1 : 1 ≤ n) (te : TEN n A v1) (k1 : KP t A v1) (i1 : INV v1) (d1 : v1.i 52 = s.i 52) (f1 : fr s + 2 * n ≤ fr v1) (gv1 : goI v1 = goI s)
  (kQ : KP t v1 Q) (cQ : cdI Q = cdI v1 + 1) (snQ : SNW s Q) (tQ : TAB Q) (gQ : goI Q = goI s) (QB : KP t Q B2) (B38 : B2.i 38 = Q.i 38) (cB : cdI B2 = cdI v1 + 2) (B21a : B2.a 21 (cdI v1).toNat = 23) (B22a : B2.a 22 (cdI v1).toNat = xn) (hxn : xn.toInt = n) (B21b : B2.a 21 (cdI v1 + 1).toNat = 24) (B23b : B2.a 23 (cdI v1 + 1).toNat = xs) (hxs : xs.toInt = slI v1) (slB : slI v1 < slI B2) (caB : caI B2 = caI v1) (dB : deI B2 = deI s + 1) (d250 : deI s + 1 ≤ 250) (fB : fr v1 + 1 ≤ fr B2) (g0 : (γ0 : Int) = goI s) (gB : goI B2 = goI s + 1) (B44 : B2.a 44 γ0 = 0) (B47 : gv B2 47 γ0 = deI s + 1) (bB : ∀ b : Bool, hd B2 b γ0 = -1)
  (ts : TS B2 v2) (k2 : KP t B2 v2) (i2 : INV v2) (s2 : SAME B2 v2) (f2 : fr B2 ≤ fr v2) (hpp : PPR γ0 Lc Lb xc xb (fun k => k = (cdI v1 + 1).toNat) v2 W) (tW : TN W) (cW : cdI W = cdI v2 + 2) (hxc : xc.toInt = cdI v1 + 1) (hxb : xb.toInt = cdI v2 + 1) (W1 : W.a 22 (cdI v1 + 1).toNat = xb) (W2 : W.a 21 (cdI v2).toNat = 15) (W3 : W.a 22 (cdI v2).toNat = xc') (hxc' : xc'.toInt = cdI v1 + 1) (W4 : W.a 21 (cdI v2 + 1).toNat = 25) (hw : ∀ w : Nat, (w : Int) < waI v2 → gv v2 58 w ≤ γ0) (W75 : W.i 75 = 1) (hse : seI Q ≤ seI W) (w18 : W.i 18 = v2.i 18) (wf : ∀ k : Nat, 64 ≤ k → k ≤ 73 → bel k t v2 W) : TS s W := by
  intro f C hA hC h o lv rs hx hy
  have cs := hI.cd
  have c1' := i1.cd
  have c2' := i2.cd
  have fv1 := i1.1.f0
  have fv2 := i2.1.f0
  have le1 := k1.2.1.1
  have le2 := k2.2.1.1
  have leQ := kQ.2.1.1
  have ekn : ((cdI v1).toNat : Int) = cdI v1 := Int.toNat_of_nonneg c1'.1
  have ekL : ((cdI v1 + 1).toNat : Int) = cdI v1 + 1 := Int.toNat_of_nonneg (by omega)
  have ek2 : ((cdI v2).toNat : Int) = cdI v2 := Int.toNat_of_nonneg c2'.1
  have ekp : ((cdI v2 + 1).toNat : Int) = cdI v2 + 1 := Int.toNat_of_nonneg (by omega)
  have t2 := i2.2.2.2.1
  have kB1 : KP t v1 B2 := kQ.tr QB (Nat.le_refl _)
  have seQ1 := kQ.2.2.2.2.2.1.1
  have ns : ∀ k : Nat, k ∈ Lc ∨ k ∈ Lb → cdI B2 ≤ (k : Int) := fun k hk => by
    rcases hk with hk | hk
    · exact (new_sites k2 bB (by omega) hpp.2.2.2.2.1 k hk).1
    · exact (new_sites k2 bB (by omega) hpp.2.2.2.2.2.1 k hk).1
  have kv1W : KP t v1 W := (kB1.tr k2 (Nat.le_refl _)).ppr hpp t2 (by omega) (by omega) w18 (fun k hk => by
    rcases hk with q | q | q
    · have := ns k (Or.inl q); omega
    · have := ns k (Or.inr q); omega
    · omega) wf
  have ksv1 : KP t s v1 := kA.tr k1 (Nat.le_refl _)
  have ksB : KP t s B2 := ksv1.tr kB1 (Nat.le_refl _)
  have ksQ : KP t s Q := ksv1.tr kQ (Nat.le_refl _)
  have ksW : KP t s W := ksv1.tr kv1W (Nat.le_refl _)
  have gW : goI W = goI v1 := by have := hpp.2.2.1; omega
  have L1 : LAT noZ A v1 W := (LAT.rf noZ A v1).kp kv1W i1.tn (by omega)
  have L2 : LAT noZ B2 v2 W := hpp.lat t2 (LAT.rf noZ B2 v2) (fun k h1 h2 e => by
    have e : k = (cdI v1 + 1).toNat := e
    omega)
  obtain ⟨A1, C1⟩ := L1.use hA hC kA k1
  obtain ⟨A2, C2⟩ := L2.use hA hC ksB k2
  obtain ⟨x1, x2, x3, x4, x5, x6, x7, x8⟩ := id hx
  have t6 := hI.2.2.2.1.2.2.2.2.2.2.1
  have hd0 : ∀ γ : Nat, (γ : Int) < goI s → (gv s 47 γ).toNat ≤ rs.length := fun γ hγ => by have := t6 γ hγ; omega
  have kg := ksB.2.2.2.2.2.2.1
  have kgW := ksW.2.2.2.2.2.2.1
  have hdW : ∀ γ : Nat, (γ : Int) < goI W → (gv W 47 γ).toNat ≤ rs.length := fun γ hγ => by
    have e : gv W 47 γ = gv s 47 γ := by unfold gv; rw [kgW.2.2.1 γ (by omega)]
    rw [e]; exact hd0 γ (by omega)
  obtain ⟨r, hr⟩ : ∃ r : Rec, r = (2, 0, n, h, o, lv, false, false) := ⟨_, rfl⟩
  have rk : r.k = 2 := by rw [hr]; rfl
  have ro : r.o = o := by rw [hr]; rfl
  have rh : r.h = h := by rw [hr]; rfl
  have rp : r.p = n := by rw [hr]; rfl
  have wvr : wv (r :: rs) = n + wv rs := by
    show (if r.k = 2 then r.p else 0) + wv rs = n + wv rs
    rw [if_pos rk, rp]
  have cxB : ∀ lv' : Nat, lv' ≤ lv + 1 → CX B2 h o lv' (r :: rs) := fun lv' hl => ⟨by show ((rs.length + 1 : Nat) : Int) = deI B2; omega, by omega, by omega, by omega, by rw [wvr]; omega, ⟨Or.inr ro.symm, by rw [ro]; exact x6⟩, by omega, by omega⟩
  have y1 : YE s (r :: rs) := hy.rec rfl (bel.rf _ _ _) (bel.rf _ _ _) hd0
  have yB : YE B2 (r :: rs) := y1.push gB g0 kg.2.1 kg.2.2.1 (by rw [B44]; decide)
  have c2 := ts f C A2 C2 h o (lv + 1) (r :: rs) (cxB _ (Nat.le_refl _)) yB
  have w21 : ∀ k : Nat, (k : Int) < cdI B2 → W.a 21 k = B2.a 21 k := fun k hk => by rw [(hpp.2.2.2.2.2.2.1 k (by omega)).1, k2.2.1.2.1 k hk]
  have w22 : W.a 22 (cdI v1).toNat = B2.a 22 (cdI v1).toNat := by
    rw [hpp.2.2.2.2.2.2.2.1 _ (by omega) (fun q => by have := ns _ (Or.inl q); omega) (fun q => by have := ns _ (Or.inr q); omega) (fun q => by have q : (cdI v1).toNat = (cdI v1 + 1).toNat := q; omega), k2.2.1.2.2.1 _ (by omega)]
  have w23 : W.a 23 (cdI v1 + 1).toNat = xs := by rw [(hpp.2.2.2.2.2.2.1 _ (by omega)).2, k2.2.1.2.2.2 _ (by omega)]; exact B23b
  obtain ⟨p1, p2, p3, p4⟩ := hA.cell (k := (cdI v1).toNat) (o := 23) (x := xn) (by omega) (by omega) (by rw [w21 _ (by omega)]; exact B21a) (by rw [w22]; exact B22a) (by decide)
  obtain ⟨q1, q2, q3, q4⟩ := hA.cell (k := (cdI v1 + 1).toNat) (o := 24) (x := xb) (by omega) (by omega) (by rw [w21 _ (by omega)]; exact B21b) W1 (by decide)
  obtain ⟨r1, r2, r3, r4⟩ := hA.cell (k := (cdI v2).toNat) (o := 15) (x := xc') (by omega) (by omega) W2 W3 (by decide)
  obtain ⟨u1', u2', u3', u4'⟩ := hA.cell (k := (cdI v2 + 1).toNat) (o := 25) (by omega) (by omega) W4 rfl (by decide)
  have d47 : (gv v2 47 γ0).toNat = (r :: rs).length := by
    have kg2 := k2.2.2.2.2.2.2.1
    have e : gv v2 47 γ0 = gv B2 47 γ0 := by unfold gv; rw [kg2.2.2.1 γ0 (by omega)]
    show (gv v2 47 γ0).toNat = rs.length + 1
    omega
  have rok : ∀ (g : Gh) (k lv' : Nat), lv ≤ lv' → recsOK f g k lv rs → recsOK f g k lv' (r :: rs) := fun g k lv' hl hk => ⟨⟨by rw [rh]; omega, by rw [ro]; omega, Or.inr (Or.inl rk)⟩, hk.mono (Nat.le_refl _) hl⟩
  have kQW : KP t Q W := (QB.tr k2 (Nat.le_refl _)).ppr hpp t2 (by omega) hse w18 (fun k hk => by
    rcases hk with q | q | q
    · have := ns k (Or.inl q); omega
    · have := ns k (Or.inr q); omega
    · have q : k = (cdI v1 + 1).toNat := q
      omega) wf
  have nsl := i1.2.2.2.2.2.2.2.2.2.2.1
  have nse := i1.2.2.2.2.2.2.2.2.2.1
  have ksl := ksv1.2.2.2.2.2.1.2.1
  have slk := k2.2.2.2.2.2.1.2.1
  have slW : slI W = slI v2 := hpp.1.sl
  have isC : C xs.toInt.toNat = false := by
    rw [hxs]
    have es : ((slI v1).toNat : Int) = slI v1 := Int.toNat_of_nonneg (by omega)
    have := hC (slI v1).toNat (by omega) (by omega)
    cases hq : C (slI v1).toNat with
    | false => rfl
    | true =>
      obtain ⟨j, j1, j2, j3⟩ := this.mp hq
      by_cases cj : (j : Int) < caI v1
      · have e36 : gv W 36 j = gv v1 36 j := by unfold gv; rw [kv1W.2.2.2.2.1.2.2.2.1 j cj]
        have := (i1.2.2.2.1.2.2.2.2.2.1 j cj).2
        omega
      · have e36 : gv W 36 j = gv v2 36 j := by unfold gv; rw [hpp.1.1 36 (by omega) (by omega)]
        have ecW : caI W = caI v2 := by unfold caI; rw [hpp.1.2.2 33 (by omega) (by omega) (by omega) (by omega) (by omega) (by omega)]
        have := (k2.2.2.2.2.1.2.2.2.2.2 j (by omega) (by omega)).1
        omega
  have env : ∀ g : Gh, g.isC = C → ENS s W f h o lv rs g → FL f g lv (cdI v1 + 1) (cdI v1 + 1) h o (r :: rs) → FL f g lv (cdI v2 + 1) (cdI v2 + 1) h o (r :: rs) → (v2.i 75 = 1 → FL f g (lv + 1) (cdI v2) (cdI v2) h o (r :: rs)) → ENS B2 v2 f h o (lv + 1) (r :: rs) g := fun g hg hE hL hX hx' => by
    refine ⟨⟨fun k hk => rok g k (lv + 1) (by omega) (hE.1.1 k (by omega)), ((hE.1.nx hg hC ksQ kQW snQ tQ hI.2.2.2.1).mid QB B38 (by omega) : ENB B2 v2 f g lv rs).2⟩, hx', ?_⟩
    have e1 : EJ s W f g h o lv (r :: rs) := hE.2.2.rec (STG.rf W) tW (Int.le_refl _) rfl hdW (Or.inr rk) ro
    exact EJ.loop (lc := lv) e1 hpp t2 hA (by omega) (by omega) (by omega) d47 hw (fun _ => by rw [hxc]; exact hL) (fun _ => by rw [hxb]; exact hX)
  have bodyJ : COD f C (cdI B2) h o (lv + 1) (r :: rs) (fun g => ENS s W f h o lv rs g ∧ FL f g lv (cdI v1 + 1) (cdI v1 + 1) h o (r :: rs) ∧ FL f g lv (cdI v2 + 1) (cdI v2 + 1) h o (r :: rs)) := by
    by_cases cr : v2.i 75 = 1
    · have cJ : COD f C (cdI v2).toNat h o (lv + 1) (r :: rs) (fun g => ENS s W f h o lv rs g ∧ FL f g lv (cdI v1 + 1) (cdI v1 + 1) h o (r :: rs) ∧ FL f g lv (cdI v2 + 1) (cdI v2 + 1) h o (r :: rs)) := by
        refine COD.ins (cxB (lv + 1) (Nat.le_refl _)) r4 (fun g _ hE => ⟨?_, rok g _ (lv + 1) (by omega) (hE.1.1.1 _ (by omega))⟩)
        have hF2 : FL f g (lv + 1) (((cdI v2).toNat : Int) + 1) (gv f 22 (cdI v2).toNat) h o (r :: rs) := by
          rw [r2, hxc']
          exact hE.2.1.to (Or.inl (by omega))
        exact okJ_15 (c := (h, o, lv + 1, false, r :: rs)) r1 hF2
      exact COD.seq c2 cJ (fun g _ hE => hE) (fun g hg hE hF => env g hg hE.1 hE.2.1 hE.2.2 (fun _ => by rw [ek2] at hF; exact hF))
    · exact c2.imp (fun g hg hE => env g hg hE.1 hE.2.1 hE.2.2 (fun q => absurd q cr))
  have pop : COD f C (cdI v2 + 1).toNat h o lv (r :: rs) (ENS s W f h o lv rs) := by
    refine COD.ins (cxB lv (by omega)) u4' (fun g _ hE => ⟨?_, rok g _ lv (Nat.le_refl _) (hE.1.1 _ (by omega))⟩)
    have hF2 : FL f g lv (((cdI v2 + 1).toNat : Int) + 1) (((cdI v2 + 1).toNat : Int) + 1) h o rs := by
      have := hE.2.1 W75
      rw [cW] at this
      have e : (((cdI v2 + 1).toNat : Int) + 1) = cdI v2 + 2 := by omega
      rw [e]; exact this
    exact okJ_25 (c := (h, o, lv, false, r :: rs)) u1' ⟨r, rs, rfl, rk, hF2⟩
  have head : CODS f C (cdI v1 + 1).toNat h o lv (r :: rs) (fun g => (ENS s W f h o lv rs g ∧ FL f g lv (cdI v2 + 1) (cdI v2 + 1) h o (r :: rs)) ∧ FL f g (lv + 1) (cdI B2) (cdI B2) h o (r :: rs)) := by
    refine CODS.ins (cxB lv (by omega)) q4 (fun g hg hE => ⟨?_, rok g _ lv (Nat.le_refl _) (hE.1.1.1.1 _ (by omega))⟩)
    have ey : gv f 23 (cdI v1 + 1).toNat = slI v1 := by rw [q3]; unfold gv; rw [w23]; exact hxs
    have hF1 : FL f g lv (((cdI v1 + 1).toNat : Int) + 1) (gv f 22 (cdI v1 + 1).toNat) h o (r :: rs) := by
      rw [q2, hxb]
      exact hE.1.2.mono (Nat.le_refl _) (by omega)
    have hF2 : FS f g (((cdI v1 + 1).toNat : Int) + 1) h o (r :: rs) := by
      have e : (((cdI v1 + 1).toNat : Int) + 1) = cdI B2 := by omega
      rw [e]; exact hE.2.fs
    refine okJ_24 (c := (h, o, lv, false, r :: rs)) q1 ⟨by rw [ey]; exact ⟨by omega, by omega⟩, ?_, hF1, hF2, r, rs, rfl, rk⟩
    rw [ey, hg, ← hxs]; exact isC
  have lp := head.loop bodyJ (E := fun g => ENS s W f h o lv rs g ∧ FL f g lv (cdI v2 + 1) (cdI v2 + 1) h o (r :: rs)) (fun g _ hE hF => ⟨hE.1, by rw [ekL] at hF; exact hF, hE.2⟩) (fun g _ hE _ hF => ⟨hE, hF⟩)
  have cl : COD f C (cdI v1 + 1).toNat h o lv (r :: rs) (ENS s W f h o lv rs) := COD.seq lp.cod pop (fun g _ hE => hE) (fun g _ hE hF => ⟨hE, by rw [ekp] at hF; exact hF⟩)
  have row : COD f C (cdI v1).toNat (h + n) o lv rs (ENS s W f h o lv rs) := by
    have c23 : COD f C (cdI v1).toNat (h + n) o lv rs (fun g => ENS s W f h o lv rs g ∧ FL f g lv (cdI v1 + 1) (cdI v1 + 1) h o (r :: rs)) := by
      refine COD.ins (hx.upv (h + n) lv d1 (by omega) (by omega) (by omega) (by omega)) p4 (fun g _ hE => ⟨?_, hE.1.1.1 _ (by omega)⟩)
      have e22 : gv f 22 (cdI v1).toNat = (n : Int) := p2.trans hxn
      have et : (gv f 22 (cdI v1).toNat).toNat = n := by rw [e22]; rfl
      have eh : h + n - n = h := by omega
      refine okJ_23 (c := (h + n, o, lv, false, rs)) p1 ⟨by rw [e22]; omega, by rw [e22]; show (n : Int) ≤ ((h + n : Nat) : Int); omega, by rw [e22]; show (wv rs : Int) + n ≤ 450; omega, ?_⟩
      show FL f g lv (((cdI v1).toNat : Int) + 1) (((cdI v1).toNat : Int) + 1) (h + n - (gv f 22 (cdI v1).toNat).toNat) o ((2, 0, (gv f 22 (cdI v1).toNat).toNat, h + n - (gv f 22 (cdI v1).toNat).toNat, o, lv, false, false) :: rs)
      rw [et, eh, ekn, ← hr]
      exact hE.2
    exact COD.seq c23 cl (fun g _ hE => hE) (fun g _ hE hF => ⟨hE, by rw [ekL] at hF; exact hF⟩)
  have items := te f C A1 C1 h o lv rs (hx.up h A52 (by omega) (by omega) (by omega))
  have rest : COD f C (cdI s + 1) h o lv rs (ENS s W f h o lv rs) := by
    rw [← cA]
    exact COD.seq items row (fun g _ hE => hE) (fun g _ hE hF => ⟨hE.1.mid kA A38 (by omega), by rw [ekn] at hF; exact hF⟩)
  have hst : W.a 21 (cdI s).toNat = 1 := by
    rw [w21 _ (by omega), kB1.2.1.2.1 _ (by omega), k1.2.1.2.1 _ (by omega)]
    exact A21
  exact COD.step hA hx cs.1 (by omega) hst (fun g _ hE => hE.1.1) rest
end
section
/-! reading: for over rows: its end -/
def RWS (t : Nat) (s Q v2 : RS) (γ0 L : Nat) : Prop := ∀ (W : RS) (Lc Lb : List Nat) (xc xc' xb : Int32), PPR γ0 Lc Lb xc xb (fun k => k = L) v2 W → TN W → cdI W = cdI v2 + 2 → xc.toInt = L → xb.toInt = cdI v2 + 1 → W.a 22 L = xb → W.a 21 (cdI v2).toNat = 15 → W.a 22 (cdI v2).toNat = xc' → xc'.toInt = L → W.a 21 (cdI v2 + 1).toNat = 25 → (∀ w : Nat, (w : Int) < waI v2 → gv v2 58 w ≤ γ0) → W.i 75 = 1 → seI Q ≤ seI W → W.i 18 = v2.i 18 → (∀ k : Nat, 64 ≤ k → k ≤ 73 → bel k t v2 W) → (∀ j : Nat, j < 10 → W.i j = v2.i j) → TS s W
theorem RO13 {N : Nat} (hN : 4000 ≤ N) {m : Nat} {s Q B2 v2 : RS} {t γ0 L : Nat} {P : RS → Prop} (hI : INV s) (h9 : t < 998) (kB : KP t s B2) (QB : KP t Q B2) (sQ : KP t s Q) (B19 : B2.i 19 = s.i 19) (B52 : B2.i 52 = s.i 52 + 1) (B56 : B2.i 56 = s.i 56) (fB : fr s ≤ fr B2) (tkB : tkI s ≤ tkI B2) (raB : RATE s B2) (raS : cdI B2 + 2 - cdI s ≤ 3 * (fr B2 - fr s)) (B64 : B2.a 64 t = 12) (B66 : (B2.a 66 t).toInt = L) (B71 : B2.a 71 t = s.i 38) (B73 : (B2.a 73 t).toInt = γ0) (Ls : cdI s ≤ (L : Int)) (LB : (L : Int) < cdI B2) (B21L : B2.a 21 L = 24) (g0 : (γ0 : Int) = goI s) (gB : goI B2 = goI s + 1) (bB : ∀ b : Bool, hd B2 b γ0 = -1) (snB : SNW s B2) (hv : PCS t 13 B2 v2) (hT : ¬ 0 ≤ v2.i 18 → RWS t s Q v2 γ0 L) (hC : ∀ (u : RS), PS t s u → fr v2 ≤ fr u → ok (f_X12_parse_10 N m u) P) : ok (f_X12_parse_10 N (m + 1) v2) P := by
  have hv' := hv
  obtain ⟨w1, w2, w3, w4, w5, w6, w7, w8, w9, w10, w11⟩ := hv'
  have fv := w1.1.f0
  have cw := w1.cd
  have cs := hI.cd
  have le2 := w3.2.1.1
  have gos := hI.2.2.2.2.2.2.2.2.2.2.2.1
  have hf := hI.1.f0
  have g2 : goI v2 = (γ0 : Int) + 1 := by have := w4.go; omega
  have e73 : (v2.a 73 t).toInt = γ0 := by rw [w11 73 (by omega) (by omega) (by omega)]; exact B73
  have n73 := k_nat e73
  have ib73 : ib (v2.a 73 t) 460 := ⟨by omega, by omega⟩
  have k66 : (v2.a 66 t).toInt = L := by rw [w11 66 (by omega) (by omega) (by omega)]; exact B66
  have n66 := k_nat k66
  have e21 : v2.a 21 L = 24 := by rw [w3.2.1.2.1 _ LB]; exact B21L
  refine lp_12 w2 (by omega) w1.2.2.1 ((w11 64 (by omega) (by omega) (by omega)).trans B64) ?_
  unfold f_X12_fors
  rw [if_pos (tp_ib w2 (by omega)), tp_nat w2, if_neg (by rw [w10]; decide), if_neg (by rw [w10]; decide), if_neg (by rw [w10]; decide), if_neg (by rw [w10]; decide), if_neg (by rw [w10]; decide), if_neg (by rw [w10]; decide), if_neg (by rw [w10]; decide), if_neg (by rw [w10]; decide), if_neg (by rw [w10]; decide), bind_some]
  unfold f_X12_rows
  rw [if_pos (tp_ib w2 (by omega)), tp_nat w2, if_neg (by rw [w10]; decide), if_neg (by rw [w10]; decide), if_pos ib73, n73]
  obtain ⟨Lc, Lb, Q1, Q2, Q3, x, c1, b1, c2, b2, e1, a1, e2, e20, a2, e3, qi, qb, qc, xc, qa, q21, q15, qfp, q22, qLc, qLb, qk1⟩ := PATCHES (fp := v2.a 66 t) hN w1 (γ0 := γ0) (k1 := L) (by omega) (by omega) (by rw [e21]; decide)
  rw [e1]
  show ok (((f_X12_emit N Q1 15 (Q1.a 66 t)).bind fun p7 => if ib (p7.2.a 66 t) 3000 then (f_X12_patch N (RS.setA p7.2 22 (((p7.2.a 66 t) : Int32).toNatClampNeg) (p7.2.i 20)) (p7.2.a 48 γ0) (p7.2.i 20)).bind fun p10 => (f_X12_emit N p10 25 0).bind fun p12 => (f_X12_over N (RS.setI (RS.setI (RS.setI p12.2 52 ((p12.2.i 52) - 1)) 43 ((p12.2.i 43) - 1)) 38 (p12.2.a 71 t)) 1).bind fun p14 => some p14 else none).bind fun p => f_X12_parse_10 N m p) P
  rw [a1 66 (by decide), e2]
  show ok ((if ib (Q2.a 66 t) 3000 then (f_X12_patch N (RS.setA Q2 22 (((Q2.a 66 t) : Int32).toNatClampNeg) (Q2.i 20)) (Q2.a 48 γ0) (Q2.i 20)).bind fun p10 => (f_X12_emit N p10 25 0).bind fun p12 => (f_X12_over N (RS.setI (RS.setI (RS.setI p12.2 52 ((p12.2.i 52) - 1)) 43 ((p12.2.i 43) - 1)) 38 (p12.2.a 71 t)) 1).bind fun p14 => some p14 else none : Option RS).bind fun p => f_X12_parse_10 N m p) P
  rw [a2 66 (by decide) (by decide) (by decide), a2 48 (by decide) (by decide) (by decide), if_pos (show ib (v2.a 66 t) 3000 from ⟨by omega, by omega⟩), n66, e20, e3]
  show ok (((f_X12_emit N Q3 25 0).bind fun p12 => (f_X12_over N (RS.setI (RS.setI (RS.setI p12.2 52 ((p12.2.i 52) - 1)) 43 ((p12.2.i 43) - 1)) 38 (p12.2.a 71 t)) 1).bind fun p14 => some p14).bind fun p => f_X12_parse_10 N m p) P
  rw [p_em 25 0 (by omega) (by omega)]
  obtain ⟨E, hE⟩ : ∃ E, E = EM Q3 25 0 := ⟨_, rfl⟩
  have iE : ∀ j : Nat, j ≠ 20 → E.i j = v2.i j := fun j hj => by rw [hE, EM.i hj]; exact qi j hj
  have cE : cdI E = cdI v2 + 2 := by rw [hE, EM.cd (by omega) (by omega)]; omega
  have aE : ∀ k : Nat, k ≠ 21 → k ≠ 22 → k ≠ 23 → E.a k = v2.a k := fun k h1 h2 h3 => by rw [hE, EM.a h1 h2 h3]; exact qa k h1 h2 h3
  have E21 : ∀ j : Nat, E.a 21 j = if j = (cdI Q3).toNat then 25 else Q3.a 21 j := fun j => by rw [hE]; exact EM.a21 j
  have E22 : ∀ j : Nat, j ≠ (cdI Q3).toNat → E.a 22 j = Q3.a 22 j := fun j hj => by rw [hE, EM.a22, if_neg hj]
  have E23 : ∀ j : Nat, j ≠ (cdI Q3).toNat → E.a 23 j = Q3.a 23 j := fun j hj => by rw [hE]; exact (EM.a23 j).trans (if_neg hj)
  have bE : E.b = v2.b := by rw [hE]; exact qb
  show ok (((f_X12_over N (RS.setI (RS.setI (RS.setI (EM Q3 25 0) 52 (((EM Q3 25 0).i 52) - 1)) 43 (((EM Q3 25 0).i 43) - 1)) 38 ((EM Q3 25 0).a 71 t)) 1).bind fun p14 => some p14).bind fun p => f_X12_parse_10 N m p) P
  rw [← hE]
  clear hE
  have e71 : E.a 71 t = s.i 38 := by rw [aE 71 (by decide) (by decide) (by decide), w11 71 (by omega) (by omega) (by omega)]; exact B71
  rw [e71]
  obtain ⟨V, hV⟩ : ∃ V, V = RS.setI E 43 ((E.i 43) - 1) := ⟨_, rfl⟩
  have va : V.a = E.a := by rw [hV]; rfl
  have vi : ∀ j : Nat, j ≠ 20 → j ≠ 43 → V.i j = v2.i j := fun j h1 h2 => by rw [hV]; exact (if_neg h2).trans (iE j h1)
  have v20 : V.i 20 = E.i 20 := by rw [hV]; rfl
  have V43 : V.i 43 = E.i 43 - 1 := by rw [hV]; rfl
  have v43 : goI V = γ0 := by
    have e1' : (1 : Int32).toInt = 1 := by decide
    have g2' : (v2.i 43).toInt = (γ0 : Int) + 1 := g2
    unfold goI
    rw [V43, iE 43 (by decide), toInt_sub] <;> rw [e1'] <;> omega
  have vb : V.b = v2.b := by rw [hV]; exact bE
  clear hV
  obtain ⟨G, hG⟩ : ∃ G, G = RS.setI (RS.setI (RS.setI E 52 ((E.i 52) - 1)) 43 ((E.i 43) - 1)) 38 (s.i 38) := ⟨_, rfl⟩
  have ga : G.a = E.a := by rw [hG]; rfl
  have gi : ∀ j : Nat, j ≠ 38 → j ≠ 43 → j ≠ 52 → G.i j = E.i j := fun j h1 h2 h3 => by rw [hG]; exact (if_neg h1).trans ((if_neg h2).trans (if_neg h3))
  have G38 : G.i 38 = s.i 38 := by rw [hG]; rfl
  have G43 : G.i 43 = E.i 43 - 1 := by rw [hG]; rfl
  have G52 : G.i 52 = s.i 52 := by
    have : G.i 52 = E.i 52 - 1 := by rw [hG]; rfl
    rw [this, iE 52 (by decide), w4.2.2.1, B52, Int32.add_sub_cancel]
  have gb : G.b = v2.b := by rw [hG]; exact bE
  rw [← hG]
  clear hG
  have cV : cdI V = cdI v2 + 2 := by have : cdI V = cdI E := by { unfold cdI; rw [v20] }; omega
  have hpp : PPR γ0 Lc Lb (v2.a 66 t) x (fun k => k = L) v2 V := by
    refine ⟨⟨fun k h1 h2 => by rw [va]; exact aE k (by omega) (by omega) (by omega), by rw [vb], fun j h1 h2 h3 h4 h5 h6 => vi j (by omega) h3⟩, by omega, v43, g2, c1, b1, fun k hk => ?_, fun k hk h1 h2 h3 => ?_, fun k hk => ?_, fun k hk => ?_, fun k hk => ?_⟩
    · rw [va, E21, if_neg (by omega), E23 k (by omega)]; exact q21 k hk
    · rw [va, E22 k (by omega)]; exact q22 k hk h1 h2 h3
    · rw [va, E22 k (by have := c2 k hk; omega)]; exact qLc k hk
    · rw [va, E22 k (by have := b2 k hk; omega)]; exact qLb k hk
    · have hk : k = L := hk
      rw [hk, e21]; decide
  have t2 := w1.2.2.2.1
  have hchn := hpp.chn t2
  have ksv2 : KP t s v2 := kB.tr w3 (Nat.le_refl _)
  have sn2 : SNW s v2 := snB.tr w6 kB w3
  have ra2 : RATE s v2 := raB.tr w5
  have ns : ∀ k : Nat, k ∈ Lc ∨ k ∈ Lb → cdI B2 ≤ (k : Int) := fun k hk => by
    rcases hk with hk | hk
    · exact (new_sites w3 bB (by omega) c1 k hk).1
    · exact (new_sites w3 bB (by omega) b1 k hk).1
  have seV : seI V = seI v2 := by unfold seI; rw [vi 38 (by decide) (by decide)]
  have vfr : ∀ k : Nat, 64 ≤ k → k ≤ 73 → bel k t v2 V := fun k k1' k2' j _ => by rw [va, aE k (by omega) (by omega) (by omega)]
  have se2 := ksv2.2.2.2.2.2.1.1
  have ksV : KP t s V := ksv2.ppr hpp t2 (by omega) (by omega) (vi 18 (by decide) (by decide)) (fun k hk => by
    rcases hk with q | q | q
    · have := ns k (Or.inl q); omega
    · have := ns k (Or.inr q); omega
    · have q : k = L := q
      omega) vfr
  have kw := ksv2.2.2.2.2.2.2.2.2.1
  have hww : ∀ w : Nat, (w : Int) < waI v2 → gv v2 58 w ≤ γ0 := fun w hw => by
    have e1 : waI v2 = waI s := by have : waI v2 = waI B2 := w4.wa; have : waI B2 = waI s := by { unfold waI; rw [B56] }; omega
    have := (hI.2.2.2.1.2.2.2.2.2.2.2.2.1 w (by omega)).2.2.2
    have e : gv v2 58 w = gv s 58 w := by unfold gv; rw [kw.2.2 w (by omega)]
    omega
  have tVG : TBS V G := ⟨⟨fun k _ _ => by rw [ga, va], by rw [gb, vb], fun j h1 h2 h3 h4 h5 h6 => by rw [gi j h2 h3 (by omega), vi j (by omega) h3, iE j (by omega)]⟩, fun k _ _ => by rw [ga, va], by rw [gi 20 (by decide) (by decide) (by decide), v20], by rw [G43, V43]⟩
  have seG : seI G = seI s := by unfold seI; rw [G38]
  have kG : KP t s G := ksV.tbs tVG (by omega) (fun q => by rw [gi 18 (by decide) (by decide) (by decide), iE 18 (by decide), ← vi 18 (by decide) (by decide)]; exact q) (fun k _ _ j _ => by rw [ga, va])
  have eqG : EQT v2 G := ⟨fun k h1 h2 => (tVG.1.1 k h1 h2).trans (hpp.1.1 k h1 h2), tVG.1.2.1.trans hpp.1.2.1, fun j h1' h2' h3' h4' h5' h6' => (tVG.1.2.2 j h1' h2' h3' h4' h5' h6').trans (hpp.1.2.2 j h1' h2' h3' h4' h5' h6')⟩
  have gG : goI G = γ0 := by rw [tVG.go]; exact v43
  have cG : cdI G = cdI v2 + 2 := by rw [tVG.cd]; exact cV
  have chG : CHN v2 G := fun γ b L' y hγ hI' hy => by
    have := hchn γ b L' y (by omega) hI' hy
    rw [ga, ← va]
    exact this
  have snG : SNW s G := SNW.eq G38 kG.2.2.2.2.2.1.2.1
  refine LEND0 (x := 1) h9 (Or.inr rfl) hC hI eqG chG (by omega) (by omega) (by omega) kG w1 (fun j j1 j2 j3 j4 => by rw [gi j j2 j3 j4]; exact iE j j1) w2 ksv2 (w4.1.trans B19) G52 (w4.2.2.2.trans B56) (by omega) snG ra2 ?_ (by omega) (by omega) (fun q => ?_)
  · unfold RATE at w5; omega
  · have hppY : PPR γ0 Lc Lb (v2.a 66 t) x (fun k => k = L) v2 (V.setI 75 1) := hpp.i (TBL.i75 V 1).tbs
    have tY : TAB (V.setI 75 1) := t2.fin hppY.1 (hppY.chn t2) (by show cdI v2 ≤ cdI V; omega) (by show goI V ≤ goI v2; omega) (by show seI V ≤ seI v2; omega) (fun γ hγ => by
      have hγ : (γ : Int) < goI V := hγ
      have := (t2.2.2.2.2.2.2.1 γ (by omega)).2
      have e : deI (V.setI 75 1) = deI v2 := by show (V.i 52).toInt = (v2.i 52).toInt; rw [vi 52 (by decide) (by decide)]
      omega) (fun w hw => by show gv v2 58 w ≤ goI V; have := hww w hw; omega) (Or.inr rfl)
    have seQ := (QB.tr w3 (Nat.le_refl _)).2.2.2.2.2.1.1
    have tS : TS s (V.setI 75 1) := by
      refine hT q (V.setI 75 1) Lc Lb (v2.a 66 t) (v2.a 66 t) x hppY tY.1.1 cV k66 (by omega) ?_ ?_ ?_ k66 ?_ hww rfl ?_ (vi 18 (by decide) (by decide)) vfr (fun j hj => (if_neg (show ¬ j = 75 by omega)).trans (vi j (by omega) (by omega)))
      · show V.a 22 L = x; rw [va, E22 L (by omega)]; exact qk1
      · show V.a 21 (cdI v2).toNat = 15; rw [va, E21, if_neg (by omega)]; exact q15
      · show V.a 22 (cdI v2).toNat = v2.a 66 t; rw [va, E22 _ (by omega)]; exact qfp
      · show V.a 21 (cdI v2 + 1).toNat = 25; rw [va, E21, if_pos (by rw [qc])]
      · show seI Q ≤ seI V; omega
    exact tS.tbs (TBL.rf s) (((TBL.i75 V 1).sy.tbs.tr tVG).tr (TBL.i75 G 1).tbs) rfl (Int.le_refl _) (by omega) (fun r => r)
end
section
/-! reading: for over rows: its body -/
def RWT (t : Nat) (s D : RS) : Prop := ∀ (Q B2 v2 : RS) (γ0 : Nat), KP t D Q → cdI Q = cdI D → SNW s Q → TAB Q → goI Q = goI s → KP t Q B2 → B2.i 38 = Q.i 38 → cdI B2 = cdI D + 1 → B2.a 21 (cdI D).toNat = 24 → B2.a 23 (cdI D).toNat = D.i 42 → slI D < slI B2 → caI B2 = caI D → deI B2 = deI s + 1 → fr D + 1 ≤ fr B2 → (γ0 : Int) = goI s → goI B2 = goI s + 1 → B2.a 44 γ0 = 0 → gv B2 47 γ0 = deI s + 1 → (∀ b : Bool, hd B2 b γ0 = -1) → TS B2 v2 → KP t B2 v2 → INV v2 → SAME B2 v2 → fr B2 ≤ fr v2 → ¬ 0 ≤ v2.i 18 → RWS t s Q v2 γ0 (cdI D).toNat
theorem RO12 {N b : Nat} (hN : 4000 ≤ N) (hs : 1 ≤ b → RUNS N (b - 1)) {m : Nat} {s D : RS} {t : Nat} {P : RS → Prop} (hI : INV s) (hp : PRS s) (h9 : t < 998) (hb : 2 * (t : Int) ≤ fr s + 12 * op s + 2) (hcb : 900 - fr s ≤ b) (hF : ∀ u, FS' s u → P u) (mD : MF t s D) (cD : cdI s + 2 ≤ cdI D) (D64 : D.a 64 t = 12) (D65 : D.a 65 t = 12) (D71 : D.a 71 t = s.i 38) (fD : fr s + 4 ≤ fr D) (slD : 2 * (slI D + 1 - slI s) ≤ fr D - fr s) (hT : RWT t s D) (hn : 36000 ≤ (m : Int) + 40 * fr D) (n1 : 1 ≤ m) (hC : ∀ (m' : Nat) (u : RS), PS t s u → fr D ≤ fr u → (m : Int) + 40 * fr D ≤ m' + 40 * fr u → ok (f_X12_parse_10 N m' u) P) : ok (f_X12_parse_10 N (m + 1) D) P := by
  have hN1 : 1000 ≤ N := by omega
  obtain ⟨a1, a2, a3, a4, a5, a6, a7, a8, a9, a10⟩ := id mD
  have fDf := a1.1.f0
  have hf := hI.1.f0
  have cc := a1.cd
  have cs := hI.cd
  have gos := hI.2.2.2.2.2.2.2.2.2.2.2.1
  have des := hI.2.2.2.2.2.2.2.2.2.2.2.2.1
  have hop := hI.op
  have nse := a1.2.2.2.2.2.2.2.2.2.1
  have nsl := a1.2.2.2.2.2.2.2.2.2.2.1
  have ekD : ((cdI D).toNat : Int) = cdI D := Int.toNat_of_nonneg cc.1
  refine lp_12 a2 (by omega) a1.2.2.1 D64 ?_
  unfold f_X12_fors
  rw [if_pos (tp_ib a2 (by omega)), tp_nat a2, if_neg (by rw [D65]; decide), if_neg (by rw [D65]; decide), if_neg (by rw [D65]; decide), if_neg (by rw [D65]; decide), if_neg (by rw [D65]; decide), if_neg (by rw [D65]; decide), if_neg (by rw [D65]; decide), if_neg (by rw [D65]; decide), if_neg (by rw [D65]; decide), bind_some]
  unfold f_X12_rows
  rw [if_pos (tp_ib a2 (by omega)), tp_nat a2, if_neg (by rw [D65]; decide), if_pos D65, p_se (N := N) (u := D) (D.b 74 t) (Or.inl rfl) nse.1 (by omega)]
  obtain ⟨q, hq⟩ : ∃ q, q = SE D (D.b 74 t) 0 := ⟨_, rfl⟩
  have mq : MF t s q := by rw [hq]; exact mD.se hI slD
  have qi : ∀ j : Nat, j ≠ 38 → j ≠ 42 → q.i j = D.i j := fun j h1 h2 => by rw [hq]; exact SE.eI h1 h2
  have qa : ∀ k : Nat, k ≠ 40 → k ≠ 41 → q.a k = D.a k := fun k h1 h2 => by rw [hq]; exact SE.eA h1 h2
  have qsl : slI q = slI D + 1 := by rw [hq]; exact SE.eSL (by omega) (by omega)
  have qk : KP t D q := by rw [hq]; exact (KP.rf t D).se nse.1 (by omega) (by omega) (by omega)
  show ok (((f_X12_shut N (SE D (D.b 74 t) 0) 41).bind fun p18 => (f_X12_emit N (RS.setI p18.2 52 ((p18.2.i 52) + 1)) 24 0).bind fun p20 => if ib ((upd (p20.2.a 66) t p20.1) t) 3000 then (f_X12_loopGoal N (RS.setA (RS.setA p20.2 66 t p20.1) 23 ((((upd (p20.2.a 66) t p20.1) t) : Int32).toNatClampNeg) (D.i 42))).bind fun p23 => (f_X12_body N (RS.setA p23.2 73 t p23.1) 13).bind fun p25 => some p25 else none).bind fun p => f_X12_parse_10 N m p) P
  rw [← hq]
  clear hq
  have cq : cdI q = cdI D := by unfold cdI; rw [qi 20 (by decide) (by decide)]
  have fq : fr q = fr D := by unfold fr; rw [qi 11 (by decide) (by decide)]
  have tkq : tkI q = tkI D := by unfold tkI; rw [qi 17 (by decide) (by decide)]
  obtain ⟨D0, eD, x1, x2, x3⟩ := p_sh hN1 mq.1.1 41 (by decide)
  rw [eD]
  obtain ⟨S, hS⟩ : ∃ S, S = D0.2 := ⟨_, rfl⟩
  show ok (((f_X12_emit N (RS.setI D0.2 52 ((D0.2.i 52) + 1)) 24 0).bind fun p20 => if ib ((upd (p20.2.a 66) t p20.1) t) 3000 then (f_X12_loopGoal N (RS.setA (RS.setA p20.2 66 t p20.1) 23 ((((upd (p20.2.a 66) t p20.1) t) : Int32).toNatClampNeg) (D.i 42))).bind fun p23 => (f_X12_body N (RS.setA p23.2 73 t p23.1) 13).bind fun p25 => some p25 else none).bind fun p => f_X12_parse_10 N m p) P
  rw [← hS] at x1 x2 x3 ⊢
  clear hS eD
  have aS : S.a = q.a := x1.1
  have cS : cdI S = cdI D := x1.tbl.cd.trans cq
  have kDS : KP t D S := qk.lx x1
  have ksS : KP t s S := mq.2.2.1.lx x1
  have tS : TAB S := mq.1.2.2.2.1.lx x1
  have iS : ∀ j : Nat, (j < 10 ∨ 18 ≤ j) → j ≠ 19 → S.i j = q.i j := fun j h1 h2 => x1.2.2.1 j h1 h2
  obtain ⟨U, hU⟩ : ∃ U, U = S.setI 52 (S.i 52 + 1) := ⟨_, rfl⟩
  have iU : ∀ j : Nat, j ≠ 52 → U.i j = S.i j := fun j hj => by rw [hU]; exact if_neg hj
  have U52 : U.i 52 = S.i 52 + 1 := by rw [hU]; rfl
  have aU : U.a = S.a := by rw [hU]; rfl
  have kSU : KP t S U := by rw [hU]; exact (KP.rf t S).i52 _
  have tbU : TBL S U := by rw [hU]; exact TBL.i52 S _
  have lU : LXI U := by rw [hU]; exact x1.2.2.2.1
  rw [← hU]
  clear hU
  have S52 : S.i 52 = s.i 52 := by rw [iS 52 (by omega) (by decide)]; exact mq.2.2.2.1.2.2.1
  have dU : deI U = deI s + 1 := by
    have e1 : (1 : Int32).toInt = 1 := by decide
    have d2 : (s.i 52).toInt = deI s := rfl
    unfold deI
    rw [U52, S52, toInt_add] <;> rw [e1] <;> (unfold deI at *; omega)
  have dS : deI S = deI s := by unfold deI; rw [S52]
  have cU : cdI U = cdI D := tbU.cd.trans cS
  have tU : TAB U := tS.tbl tbU (fun γ hγ => by have := (tS.2.2.2.2.2.2.1 γ hγ).2; omega) (by rw [iU 75 (by decide)]; exact tS.2.2.2.2.2.2.2.2.2)
  rw [p_em 24 0 (by omega) (by omega)]
  obtain ⟨E, hE⟩ : ∃ E, E = EM U 24 0 := ⟨_, rfl⟩
  have lE : LXI E := by rw [hE]; exact LXI.em lU
  have kUE : KP t U E := by rw [hE]; exact (KP.rf t U).em (by omega) (by omega)
  have tE : TAB E := by rw [hE]; exact tU.em (by omega) (by omega)
  have iE : ∀ j : Nat, j ≠ 20 → E.i j = U.i j := fun j hj => by rw [hE]; exact EM.i hj
  have aE : ∀ k : Nat, k ≠ 21 → k ≠ 22 → k ≠ 23 → E.a k = U.a k := fun k h1 h2 h3 => by rw [hE]; exact EM.a h1 h2 h3
  have cE : cdI E = cdI D + 1 := by rw [hE, EM.cd (by omega) (by omega)]; omega
  have E21 : E.a 21 (cdI D).toNat = 24 := by rw [hE, EM.a21, if_pos (by rw [cU])]
  show ok ((if ib ((upd ((EM U 24 0).a 66) t (U.i 20)) t) 3000 then (f_X12_loopGoal N (RS.setA (RS.setA (EM U 24 0) 66 t (U.i 20)) 23 ((((upd ((EM U 24 0).a 66) t (U.i 20)) t) : Int32).toNatClampNeg) (D.i 42))).bind fun p23 => (f_X12_body N (RS.setA p23.2 73 t p23.1) 13).bind fun p25 => some p25 else none : Option RS).bind fun p => f_X12_parse_10 N m p) P
  rw [← hE]
  clear hE
  have eu : upd (E.a 66) t (U.i 20) t = U.i 20 := if_pos rfl
  have k20 : (U.i 20).toInt = ((cdI D).toNat : Int) := by rw [ekD]; exact cU
  rw [eu, if_pos (show ib (U.i 20) 3000 from ⟨by omega, by omega⟩), k_nat k20]
  obtain ⟨F, hFF⟩ : ∃ F, F = (E.setA 66 t (U.i 20)).setA 23 (cdI D).toNat (D.i 42) := ⟨_, rfl⟩
  have lF : LXI F := by rw [hFF]; exact (lE.sA 66 t _).sA 23 _ _
  have iF : F.i = E.i := by rw [hFF]; rfl
  have kSE : KP t S E := kSU.tr kUE (Nat.le_refl _)
  have kSF : KP t S F := by rw [hFF]; exact (kSE.loc t _ (by omega) (by omega) (Nat.le_refl _)).iy (by omega)
  have aF : ∀ k : Nat, k ≠ 66 → k ≠ 23 → F.a k = E.a k := fun k h1 h2 => by rw [hFF, setA_nk h2, setA_nk h1]
  have F66 : F.a 66 t = U.i 20 := by rw [hFF, setA_nk (by decide)]; exact setA_at
  have F23 : F.a 23 (cdI D).toNat = D.i 42 := by rw [hFF]; exact setA_at
  have tF : TAB F := by
    rw [hFF]
    exact (tE.tbl (TBL.loc E t _ (by omega) (by omega)) (fun γ hγ => (tE.2.2.2.2.2.2.1 γ hγ).2) tE.2.2.2.2.2.2.2.2.2).iy
  rw [← hFF]
  clear hFF
  have iFS : ∀ j : Nat, j ≠ 20 → j ≠ 52 → F.i j = S.i j := fun j h1 h2 => by rw [iF, iE j h1, iU j h2]
  have ksF : KP t s F := ksS.tr kSF (Nat.le_refl _)
  have cF : cdI F = cdI D + 1 := by have : cdI F = cdI E := by { unfold cdI; rw [iF] }; omega
  have gF : goI F = goI s := by unfold goI; rw [iFS 43 (by decide) (by decide), iS 43 (by omega) (by decide), mq.2.2.2.1.2.1]
  have gS : goI S = goI s := by unfold goI; rw [iS 43 (by omega) (by decide), mq.2.2.2.1.2.1]
  have dF : deI F = deI s + 1 := by have : deI F = deI U := by { unfold deI; rw [iF, iE 52 (by decide)] }; omega
  have gos4 : goI F < 460 := by omega
  obtain ⟨V, eV, hV⟩ := p_lg (N := N) hN1 (u := F) (by omega) gos4
  rw [eV]
  show ok (((f_X12_body N (RS.setA V 73 t (F.i 43)) 13).bind fun p23 => some p23).bind fun p => f_X12_parse_10 N m p) P
  have F1 := hV.f (t := t) (s := s) ksF tF gos.1 gos4 (by omega)
  have F2 := hV.f (t := t) (s := S) kSF tF (by omega) gos4 (by omega)
  obtain ⟨γ0, hγ0⟩ : ∃ γ0, γ0 = (F.i 43).toNatClampNeg := ⟨_, rfl⟩
  rw [← hγ0] at F1 F2
  obtain ⟨p1, p2, p3, p4, p5, p6, p7, p8, p9, p10, p11, p12, p13⟩ := id F1
  have kSV := F2.2.2.2.2.2.2.2.2.2.2.2.1
  obtain ⟨B2, hB2⟩ : ∃ B2, B2 = V.setA 73 t (F.i 43) := ⟨_, rfl⟩
  have i2 : B2.i = V.i := by rw [hB2]; rfl
  have ab : ∀ k : Nat, k ≠ 73 → B2.a k = V.a k := fun k hk => by rw [hB2]; exact setA_nk hk
  have a73 : B2.a 73 t = F.i 43 := by rw [hB2]; exact setA_at
  have k2 : KP t s B2 := by rw [hB2]; exact p12.loc t _ (by omega) (by omega) (Nat.le_refl _)
  have kS2 : KP t S B2 := by rw [hB2]; exact kSV.loc t _ (by omega) (by omega) (Nat.le_refl _)
  have tb2 : TBL V B2 := by rw [hB2]; exact TBL.loc V t _ (by omega) (by omega)
  have b2 : B2.b = V.b := by rw [hB2]; rfl
  rw [← hB2]
  clear hB2
  have ib2 : ∀ j : Nat, j ≠ 43 → B2.i j = F.i j := fun j hj => by rw [i2]; exact p3 j hj
  have l2 : LXI B2 := lF.of (ib2 2 (by decide)) (ib2 10 (by decide)) (ib2 11 (by decide)) (ib2 12 (by decide)) (ib2 14 (by decide)) (by rw [b2]; exact p4)
  have t2 : tpI B2 = t := by
    unfold tpI
    rw [ib2 63 (by decide), iFS 63 (by decide) (by decide), iS 63 (by omega) (by decide)]
    exact mq.2.1
  have r75 : B2.i 75 = 0 ∨ B2.i 75 = 1 := by rw [ib2 75 (by decide), iFS 75 (by decide) (by decide), iS 75 (by omega) (by decide)]; exact mq.1.r
  rcases BODY (N := N) (u := B2) 13 l2 t2 h9 with ⟨S9, eS9, y1, y2⟩ | ⟨eS9, y1⟩
  · rw [eS9]
    exact lp_f y2 (hF S9 (FS'.of k2.1.1 y1 y2 r75)) n1
  rw [eS9]
  show ok (f_X12_parse_10 N m (TH B2 t 13 2)) P
  have s15 : S.i 15 = 0 := by rw [← iFS 15 (by decide) (by decide), ← ib2 15 (by decide)]; exact y1
  obtain ⟨z1, ⟨z2, z3, z4⟩, z5⟩ := x3 s15
  have tkD := a1.tk
  have tkS := tk_add z2 ⟨by omega, by omega⟩
  have f2 : fr B2 = fr S := by unfold fr; rw [ib2 11 (by decide), iFS 11 (by decide) (by decide)]
  have tk2 : tkI B2 = tkI S := by unfold tkI; rw [ib2 17 (by decide), iFS 17 (by decide) (by decide)]
  have bS : ∀ j : Nat, j ≠ 20 → j ≠ 43 → j ≠ 52 → B2.i j = S.i j := fun j h1 h2 h3 => by rw [ib2 j h2, iFS j h1 h3]
  have bq : ∀ j : Nat, (j < 10 ∨ 18 ≤ j) → j ≠ 19 → j ≠ 20 → j ≠ 43 → j ≠ 52 → B2.i j = q.i j := fun j h1 h2 h3 h4 h5 => by rw [bS j h3 h4 h5, iS j h1 h2]
  have B19 : B2.i 19 = s.i 19 := by rw [bS 19 (by decide) (by decide) (by decide), z5, mq.2.2.2.1.1, Int32.add_sub_cancel]
  have B52 : B2.i 52 = s.i 52 + 1 := by rw [ib2 52 (by decide), iF, iE 52 (by decide), U52, S52]
  have B56 : B2.i 56 = s.i 56 := by rw [bq 56 (by omega) (by decide) (by decide) (by decide) (by decide)]; exact mq.2.2.2.1.2.2.2
  have cB2 : cdI B2 = cdI D + 1 := by have : cdI B2 = cdI F := by { unfold cdI; rw [ib2 20 (by decide)] }; omega
  have e2 : enI B2 = enI q := by unfold enI; rw [bq 24 (by omega) (by decide) (by decide) (by decide) (by decide)]
  have e3 : trI B2 = trI q := by unfold trI; rw [bq 29 (by omega) (by decide) (by decide) (by decide) (by decide)]
  have e4 : caI B2 = caI q := by unfold caI; rw [bq 33 (by omega) (by decide) (by decide) (by decide) (by decide)]
  have e5 : seI B2 = seI q := by unfold seI; rw [bq 38 (by omega) (by decide) (by decide) (by decide) (by decide)]
  have e6 : slI B2 = slI q := by unfold slI; rw [bq 42 (by omega) (by decide) (by decide) (by decide) (by decide)]
  have e8 : deI B2 = deI s + 1 := by have : deI B2 = deI F := by { unfold deI; rw [ib2 52 (by decide)] }; omega
  have e9 : waI B2 = waI s := by unfold waI; rw [B56]
  have e10 : peI B2 = peI q := by unfold peI; rw [bq 59 (by omega) (by decide) (by decide) (by decide) (by decide)]
  have o2 : op B2 = op s := by unfold op; rw [B19]
  have gB : goI B2 = goI s + 1 := by have : goI B2 = goI V := by { unfold goI; rw [i2] }; omega
  have raq := mq.2.2.2.2.2.1
  have raB : RATE s B2 := by
    unfold RATE at raq ⊢
    rw [cB2, e2, e3, e4, e6, e10, f2, tk2]
    omega
  have sab : ∀ y : Nat, B2.a 40 y = q.a 40 y := fun y => by rw [ab 40 (by decide), p5 40 (by omega), aF 40 (by decide) (by decide), aE 40 (by decide) (by decide) (by decide), aU, aS]
  have snq := mq.2.2.2.2.1
  have snB : SNW s B2 := by
    refine ⟨by have := snq.1; omega, fun y h1 h2 => ?_⟩
    have := snq.2 y h1 (by omega)
    unfold gv at this ⊢
    rw [sab y]; exact this
  have tB2 : TAB B2 := p13.tbl tb2 (fun γ hγ => by
    have := (p13.2.2.2.2.2.2.1 γ hγ).2
    have : deI B2 = deI V := by unfold deI; rw [i2]
    omega) r75
  have iB2 : INV B2 := by
    refine ⟨l2, hI.2.1.kp k2, y1, tB2, ?_⟩
    have ns := hI.2.2.2.2
    have q2 := k2.2.1.1
    have q3 := k2.2.2.1.1
    have q4 := k2.2.2.2.1.1
    have q5 := k2.2.2.2.2.1.1
    have q6 := k2.2.2.2.2.2.1
    have q10 := k2.2.2.2.2.2.2.2.2.2.1.1
    have sn1 := snB.1
    have q6a := q6.1
    have q6b := q6.2.1
    unfold RATE at raB
    unfold NUM at ns ⊢
    rw [o2, gB, e8, e9]
    omega
  have b46F : bel 46 (goI s) s F := fun j hj => by rw [aF 46 (by decide) (by decide), aE 46 (by decide) (by decide) (by decide), aU, aS]; exact mq.2.2.2.2.2.2.2.2.2 j hj
  have prl : PRL B2 := (PRS.lgr hp hV gF ksF.2.2.2.2.2.2.1.2.1 b46F (by omega) gos4).tbl tb2
  have f2f := iB2.1.f0
  refine CALLS (hs (by omega)) iB2 prl.prs t2 (by omega) (by omega) (by omega) (by omega) (fun u hu => hF u (FS'.kp k2 hu)) (fun m4 v2 hv2 hf2 hm4 => ?_)
  have fv2 := hv2.1.1.f0
  obtain ⟨m5, rfl⟩ : ∃ m5, m4 = m5 + 1 := ⟨m4 - 1, by omega⟩
  have push5 : ((m5 + 1 : Nat) : Int) = (m5 : Int) + 1 := by omega
  rw [push5] at hm4
  have loc : ∀ k : Nat, 64 ≤ k → k ≤ 72 → k ≠ 66 → B2.a k t = D.a k t := fun k h1 h2 h3 => by rw [ab k (by omega), p5 k (by omega), aF k h3 (by omega), aE k (by omega) (by omega) (by omega), aU, aS, qa k (by omega) (by omega)]
  have hdB : ∀ b : Bool, hd B2 b γ0 = -1 := fun b => by
    have : hd B2 b γ0 = hd V b γ0 := by
      unfold hd gv
      rw [ab _ (by rcases bk_cases b with e | e <;> rw [e] <;> decide)]
    rw [this]; exact p9 b
  have B21 : B2.a 21 (cdI D).toNat = 24 := by rw [ab 21 (by decide), p5 21 (by omega), aF 21 (by decide) (by decide)]; exact E21
  have B23 : B2.a 23 (cdI D).toNat = D.i 42 := by rw [ab 23 (by decide), p5 23 (by omega)]; exact F23
  have B44 : B2.a 44 γ0 = 0 := by rw [ab 44 (by decide)]; exact p7
  have B47 : gv B2 47 γ0 = deI s + 1 := by
    unfold gv
    rw [ab 47 (by decide), p8]
    exact dF
  have caq : caI q = caI D := by unfold caI; rw [qi 33 (by decide) (by decide)]
  have snS : SNW s S := snq.tbl x1.tbl
  have e9v := hv2.2.2.2.2.2.2.2.2.1
  refine RO13 (m := m5) (Q := S) (L := (cdI D).toNat) (γ0 := γ0) hN hI h9 k2 kS2 ksS B19 B52 B56 (by omega) (by omega) raB ?_ ?_ ?_ ?_ ?_ (by omega) (by omega) B21 (by omega) gB hdB snB hv2 (fun z => hT S B2 v2 γ0 kDS cS snS tS gS kS2 (bS 38 (by decide) (by decide) (by decide)) cB2 B21 B23 (by omega) (by omega) e8 (by omega) (by omega) gB B44 B47 hdB (e9v z) hv2.2.2.1 hv2.1 hv2.2.2.2.1 hv2.2.2.2.2.2.2.1 z) (fun u hu hf' => hC m5 u hu (by omega) (by omega))
  · unfold RATE at a6; omega
  · rw [loc 64 (by omega) (by omega) (by decide)]; exact D64
  · rw [ab 66 (by decide), p5 66 (by omega), F66]; exact k20
  · rw [loc 71 (by omega) (by omega) (by decide)]; exact D71
  · rw [a73]
    show goI F = γ0
    omega
end
section
/-! reading: for over rows: its values -/
theorem RWT.raise {t : Nat} {s D : RS} (hI : INV s) (kD : KP t s D) (cD : cdI s + 2 ≤ cdI D) (e0 : D.a 21 (cdI s).toNat = 1) (e21 : D.a 21 (cdI s + 1).toNat = 20) (e22 : D.a 22 (cdI s + 1).toNat = 1) : RWT t s D := by
  intro Q B2 v2 γ0 kQ cQ snQ tQ gQ QB B38 cB B21 B23 slB caB dB fB g0 gB B44 B47 bB ts k2 i2 s2 f2 z W Lc Lb xc xc' xb hpp tW cW hxc hxb W1 W2 W3 hxc' W4 hw W75 hse w18 wf wi
  have cs := hI.cd
  have le2 := k2.2.1.1
  have kDB : KP t D B2 := kQ.tr QB (Nat.le_refl _)
  have kDv : KP t D v2 := kDB.tr k2 (Nat.le_refl _)
  have ek1 : ((cdI s + 1).toNat : Int) = cdI s + 1 := Int.toNat_of_nonneg (by omega)
  have ns : ∀ k : Nat, k ∈ Lc ∨ k ∈ Lb → cdI B2 ≤ (k : Int) := fun k hk => by
    rcases hk with hk | hk
    · exact (new_sites k2 bB (by omega) hpp.2.2.2.2.1 k hk).1
    · exact (new_sites k2 bB (by omega) hpp.2.2.2.2.2.1 k hk).1
  refine TS.raise hI (by omega) ?_ ?_ ?_ ?_
  · rw [(hpp.2.2.2.2.2.2.1 _ (by omega)).1, kDv.2.1.2.1 _ (by omega)]; exact e0
  · rw [(hpp.2.2.2.2.2.2.1 _ (by omega)).1, kDv.2.1.2.1 _ (by omega)]; exact e21
  · rw [hpp.2.2.2.2.2.2.2.1 _ (by omega) (fun q => by have := ns _ (Or.inl q); omega) (fun q => by have := ns _ (Or.inr q); omega) (fun q => by have q : (cdI s + 1).toNat = (cdI D).toNat := q; omega), kDv.2.1.2.2.1 _ (by omega)]; exact e22
  · rw [wi 3 (by omega), (kD.tr kDv (Nat.le_refl _)).1.1.1 3 (by omega)]
    have := le_int hI.2.1.2.1.1
    have e4 : (4 : Int32).toInt = 4 := by decide
    omega
theorem RWT.rows {t n : Nat} {s A v1 D : RS} {xn : Int32} (hI : INV s) (kA : KP t s A) (cA : cdI A = cdI s + 1) (A21 : A.a 21 (cdI s).toNat = 1) (A38 : A.i 38 = s.i 38) (A52 : A.i 52 = s.i 52) (fA : fr s ≤ fr A) (fA9 : fr A ≤ fr v1) (n1 : 1 ≤ n) (te : ¬ 0 ≤ v1.i 18 → TEN n A v1) (k1 : KP t A v1) (i1 : INV v1) (d1 : v1.i 52 = s.i 52) (f1 : fr s + 2 * n ≤ fr v1) (gv1 : goI v1 = goI s) (kD : KP t v1 D) (cD : cdI D = cdI v1 + 1) (D21 : D.a 21 (cdI v1).toNat = 23) (D22 : D.a 22 (cdI v1).toNat = xn) (hxn : xn.toInt = n) (D42 : D.i 42 = v1.i 42) (caD : caI D = caI v1) (fD : fr D = fr v1) (d250 : deI s + 1 ≤ 250) : RWT t s D := by
  intro Q B2 v2 γ0 kQ cQ snQ tQ gQ QB B38 cB B21 B23 slB caB dB fB g0 gB B44 B47 bB ts k2 i2 s2 f2 z W Lc Lb xc xc' xb hpp tW cW hxc hxb W1 W2 W3 hxc' W4 hw W75 hse w18 wf wi
  have c1 := i1.cd
  have kDB : KP t D B2 := kQ.tr QB (Nat.le_refl _)
  have slD : slI D = slI v1 := by unfold slI; rw [D42]
  rw [cD] at B21 B23 hpp hxc W1 hxc' cQ
  have ekL : ((cdI v1 + 1).toNat : Int) = cdI v1 + 1 := Int.toNat_of_nonneg (by omega)
  refine TS.rows hI kA cA A21 A38 A52 fA fA9 n1 (te (fun q => z (k2.1.2 ((kD.tr kDB (Nat.le_refl _)).1.2 q)))) k1 i1 d1 f1 gv1 (kD.tr kQ (Nat.le_refl _)) cQ snQ tQ gQ QB B38 (by omega) ?_ ?_ hxn B21 B23 (by rw [D42]; rfl) (by omega) (by omega) dB d250 (by omega) g0 gB B44 B47 bB ts k2 i2 s2 f2 hpp tW cW (by omega) hxb W1 W2 W3 (by omega) W4 hw W75 hse w18 wf
  · rw [kDB.2.1.2.1 _ (by omega)]; exact D21
  · rw [kDB.2.1.2.2.1 _ (by omega)]; exact D22
theorem TEN.zero (s : RS) : TEN 0 s s := fun _ _ _ _ _ _ _ _ _ => COD.nil (fun _ _ hE => hE.2)
theorem RO10 {N b : Nat} (hN : 4000 ≤ N) (hx : 1 ≤ b → RUNE N 16 4 11 24 (b - 1)) (hs : 1 ≤ b → RUNS N (b - 1)) {s A : RS} {t : Nat} {P : RS → Prop} {B : Int} (hI : INV s) (hp : PRS s) (h9 : t < 998) (hb : 2 * (t : Int) ≤ fr s + 12 * op s + 2) (hcb : 900 - fr s ≤ b) (hF : ∀ u, FS' s u → P u) (kA : KP t s A) (cA : cdI A = cdI s + 1) (A21 : A.a 21 (cdI s).toNat = 1) (A38 : A.i 38 = s.i 38) (A52 : A.i 52 = s.i 52) (fA : fr s ≤ fr A) (hC : ∀ (m : Nat) (u : RS), PS t s u → fr s + 1 ≤ fr u → B ≤ m + 40 * fr u → ok (f_X12_parse_10 N m u) P) : ∀ (d n k : Nat) (u w : RS), 900 - fr w ≤ d → MF t s w → w.a 64 t = 12 → w.a 71 t = s.i 38 → (w.a 68 t).toInt = k → w.i 38 = s.i 38 → 2 * (slI w + 1 - slI s) ≤ fr w - fr s → cdI w + 1 - cdI s ≤ 3 * (fr w - fr s) → fr s + 3 + 2 * k ≤ fr w → fr A + 2 * k ≤ fr w → (¬ 0 ≤ w.i 18 → TEN k A u) → KP t A u → TN u → KP t u w → cdI w = cdI u → goI u = goI s → 36000 + 20 ≤ (n : Int) + 40 * fr w → B ≤ (n : Int) + 40 * fr w → ok (f_X12_parse_10 N n (TH w t 10 16)) P := by
  intro d
  induction d with
  | zero =>
    intro n k u w hd mW w64 w71 w68 w38 sl cd f1 f2 te ku tnu kuw cuw gu hn hB
    have fwf := mW.1.1.f0
    have ow : op w = op s + 1 := mW.2.2.2.2.2.2.2.2.1
    refine CALL (hx (by omega)) mW.1 mW.2.1 (by omega) (by omega) (by omega) (by omega) (fun u hu => hF u (FS'.kp mW.2.2.1 hu)) (fun m2 v hv hm2 => ?_)
    have := hv.1.1.f0
    have := hv.2.2.2.2.2.2.1
    omega
  | succ d ih =>
    intro n k u w hd mW w64 w71 w68 w38 sl cd f1 f2 te ku tnu kuw cuw gu hn hB
    have fwf := mW.1.1.f0
    have ow : op w = op s + 1 := mW.2.2.2.2.2.2.2.2.1
    refine CALL (hx (by omega)) mW.1 mW.2.1 (by omega) (by omega) (by omega) (by omega) (fun u hu => hF u (FS'.kp mW.2.2.1 hu)) (fun m2 v hv hm2 => ?_)
    have mV := mW.pc mW.go hv
    obtain ⟨v1, v2, v3, v4, v5, v6, v7, v8, v9, v10, v11, v12⟩ := hv
    have fv := v1.1.f0
    have cv := v1.cd
    have cs := hI.cd
    have hf := hI.1.f0
    have lev := v3.2.1.1
    have les := (ku.tr kuw (Nat.le_refl _)).2.1.1
    obtain ⟨m3, rfl⟩ : ∃ m3, m2 = m3 + 1 := ⟨m2 - 1, by omega⟩
    have push2 : ((m3 + 1 : Nat) : Int) = (m3 : Int) + 1 := by omega
    rw [push2] at hm2
    refine lp_12 v2 (by omega) v1.2.2.1 ((v12 64 (by omega) (by omega) (by omega)).trans w64) ?_
    unfold f_X12_fors
    rw [if_pos (tp_ib v2 (by omega)), tp_nat v2, if_neg (by rw [v11]; decide), if_neg (by rw [v11]; decide), if_neg (by rw [v11]; decide), if_neg (by rw [v11]; decide), if_neg (by rw [v11]; decide), if_neg (by rw [v11]; decide), if_neg (by rw [v11]; decide), if_neg (by rw [v11]; decide), if_neg (by rw [v11]; decide), bind_some]
    unfold f_X12_rows
    rw [if_pos (tp_ib v2 (by omega)), tp_nat v2, if_pos v11]
    have v68 : (v.a 68 t).toInt = k := by rw [v12 68 (by omega) (by omega) (by omega)]; exact w68
    obtain ⟨x, hxx⟩ : ∃ x, x = v.a 68 t + 1 := ⟨_, rfl⟩
    have xk : x.toInt = ((k + 1 : Nat) : Int) := by
      have e1 : (1 : Int32).toInt = 1 := by decide
      rw [hxx, toInt_add] <;> rw [e1] <;> omega
    rw [← hxx]
    clear hxx
    have eu : upd (v.a 68) t x t = x := if_pos rfl
    rw [eu]
    obtain ⟨M, hM⟩ : ∃ M, M = v.setA 68 t x := ⟨_, rfl⟩
    have mM : MF t s M := by rw [hM]; exact mV.loc _ (by omega) (by omega)
    have kM : KP t v M := by rw [hM]; exact (KP.rf t v).loc t _ (by omega) (by omega) (Nat.le_refl _)
    have iM : M.i = v.i := by rw [hM]; rfl
    have aM : ∀ k : Nat, k ≠ 68 → M.a k = v.a k := fun k hk => by rw [hM]; exact setA_nk hk
    have M68 : M.a 68 t = x := by rw [hM]; exact setA_at
    rw [← hM]
    clear hM
    have fM : fr M = fr v := by unfold fr; rw [iM]
    have cM : cdI M = cdI v := by unfold cdI; rw [iM]
    have slM : slI M = slI v := by unfold slI; rw [iM]
    have ten : ¬ 0 ≤ v.i 18 → TEN (k + 1) A v := fun q => (te (fun r => q (v3.1.2 r))).snoc ku tnu kuw (v9 q) v3 v1.tn cuw (by have := v4.go; have := mW.go; omega) (w38.trans A38.symm) (mW.2.2.2.1.2.2.1.trans A52.symm) (by omega) (by omega)
    have kAv : KP t A v := (ku.tr kuw (Nat.le_refl _)).tr v3 (Nat.le_refl _)
    have gv' : goI v = goI s := mV.go
    by_cases c : v.i 10 = 44
    · rw [if_pos c]
      obtain ⟨w', ew, y1, y2, y3, y4, y5, y6, y7⟩ := NX (show 1000 ≤ N by omega) mM.1 (by rw [iM, c]; decide)
      rw [ew]
      have mw' : MF t s w' := mM.lx y4 y1 y3 y5 y6
      show ok (((f_X12_then N w' 10 16).bind fun p32 => some p32).bind fun p => f_X12_parse_10 N m3 p) P
      rw [p_th 10 16 mw'.2.1 (by omega)]
      have slw : slI w' = slI v := y1.tbl.sl.trans slM
      have cw' : cdI w' = cdI v := y1.tbl.cd.trans cM
      have pk : ((k + 1 : Nat) : Int) = (k : Int) + 1 := by omega
      refine ih m3 (k + 1) v w' (by omega) mw' ?_ ?_ (by rw [y1.1, M68]; exact xk) ((y1.i38.trans (by rw [iM])).trans (v5.trans w38)) (by unfold RATE at v6; omega) (by unfold RATE at v6; omega) (by omega) (by omega) (fun q => ten (fun r => q ?_)) kAv v1.tn (kM.lx y1) cw' gv' (by omega) (by omega)
      · rw [y1.1, aM 64 (by decide), v12 64 (by omega) (by omega) (by omega)]; exact w64
      · rw [y1.1, aM 71 (by decide), v12 71 (by omega) (by omega) (by omega)]; exact w71
      · rw [y1.2.2.1 18 (by omega) (by omega), iM]; exact r
    · rw [if_neg c, p_em 23 x (by omega) (by omega)]
      show ok (f_X12_parse_10 N m3 ((EM M 23 x).setA 65 t 12)) P
      obtain ⟨D, hD⟩ : ∃ D, D = (EM M 23 x).setA 65 t 12 := ⟨_, rfl⟩
      have mD : MF t s D := by
        rw [hD]
        refine (mM.em hI ?_).loc _ (by omega) (by omega)
        unfold RATE at v6; omega
      have kD : KP t v D := by rw [hD]; exact (kM.em cv.1 (by omega)).loc t _ (by omega) (by omega) (Nat.le_refl _)
      have cD : cdI D = cdI v + 1 := by rw [hD]; exact (EM.cd (u := M) (o := 23) (x := x) (by omega) (by omega)).trans (by rw [cM])
      have D21 : D.a 21 (cdI v).toNat = 23 := by rw [hD, setA_nk (by decide), EM.a21, if_pos (by rw [cM])]
      have D22 : D.a 22 (cdI v).toNat = x := by rw [hD, setA_nk (by decide), EM.a22, if_pos (by rw [cM])]
      have D65 : D.a 65 t = 12 := by rw [hD]; exact setA_at
      have iD : ∀ j : Nat, j ≠ 20 → D.i j = v.i j := fun j hj => by rw [hD]; exact (EM.i hj).trans (by rw [iM])
      have lD : ∀ k : Nat, 64 ≤ k → k ≤ 73 → k ≠ 65 → k ≠ 68 → D.a k t = v.a k t := fun k h1 h2 h3 h4 => by rw [hD, setA_nk h3, EM.a (by omega) (by omega) (by omega), aM k h4]
      rw [← hD]
      clear hD
      have fD : fr D = fr v := by unfold fr; rw [iD 11 (by decide)]
      have slD : slI D = slI v := by unfold slI; rw [iD 42 (by decide)]
      obtain ⟨m', rfl⟩ : ∃ m', m3 = m' + 1 := ⟨m3 - 1, by omega⟩
      have push' : ((m' + 1 : Nat) : Int) = (m' : Int) + 1 := by omega
      rw [push'] at hm2
      have des := hI.2.2.2.2.2.2.2.2.2.2.2.2.1
      have hop := hI.op
      refine RO12 (m := m') hN hs hI hp h9 hb hcb hF mD (by omega) ?_ D65 ?_ (by omega) (by unfold RATE at v6; omega) (RWT.rows (n := k + 1) hI kA cA A21 A38 A52 fA (by omega) (by omega) ten kAv v1 mV.2.2.2.1.2.2.1 (by omega) gv' kD cD D21 D22 xk (iD 42 (by decide)) (by unfold caI; rw [iD 33 (by decide)]) fD (by omega)) (by omega) (by omega) (fun m4 u' hu hf hm => hC m4 u' hu (by omega) (by omega))
      · rw [lD 64 (by omega) (by omega) (by decide) (by decide), v12 64 (by omega) (by omega) (by omega)]; exact w64
      · rw [lD 71 (by omega) (by omega) (by decide) (by decide), v12 71 (by omega) (by omega) (by omega)]; exact w71
end
section
/-! reading: for: its head -/
/-- the step and a inner word are laid, the word is read -/
theorem STARTl {N : Nat} (hN : 1000 ≤ N) {s u : RS} {t k : Nat} {K : Int32} (y : Int32) (h1 : 64 ≤ k) (h2 : k ≤ 73) (hI : INV s) (ht : tpI s = t) (hz : ¬ s.i 10 = 0) (hu : SKF s u t K) : ∃ R, f_X12_next N (u.setA k t y) = some R ∧ MM t s R ∧ cdI R = cdI s + 1 ∧ R.a = (u.setA k t y).a ∧ (410 ≤ s.i 10 → fr s + 2 ≤ fr R) ∧ slI R = slI s ∧ LX (u.setA k t y) R := by
  obtain ⟨ul, ui, ut, uk, uc, u21, u64, u65, ua⟩ := hu
  obtain ⟨U, hU⟩ : ∃ U, U = u.setA k t y := ⟨_, rfl⟩
  have lU : LXI U := by rw [hU]; exact ul
  have iU : U.i = u.i := by rw [hU]; rfl
  have kU : KP t s U := by rw [hU]; exact uk.loc t y h1 h2 (Nat.le_refl _)
  have tU : TAB U := by rw [hU]; exact ut.tbl (TBL.loc _ t y h1 h2) (fun γ hγ => (ut.2.2.2.2.2.2.1 γ hγ).2) ut.2.2.2.2.2.2.2.2.2
  rw [← hU]
  clear hU
  have ui : ∀ j : Nat, j ≠ 20 → j ≠ 53 → U.i j = s.i j := fun j a b => by rw [iU]; exact ui j a b
  have uc : cdI U = cdI s + 1 := by unfold cdI at *; rw [iU]; exact uc
  obtain ⟨R, eR, x1, x2, x3, x4⟩ := p_nx hN lU
  obtain ⟨r15, rc⟩ := x4 ((ui 15 (by decide) (by decide)).trans hI.2.2.1)
  obtain ⟨c1, c2, c3⟩ := rc (fun z => hz ((ui 10 (by decide) (by decide)).symm.trans z))
  have fu : fr U = fr s := by unfold fr; rw [ui 11 (by decide) (by decide)]
  have u10 : U.i 10 = s.i 10 := ui 10 (by decide) (by decide)
  have hf := hI.1.f0
  have n12 := hI.tk
  have tk : tkI R = tkI s + 1 := tk_add (u := s) (c1.trans (congrArg (· + 1) (ui 17 (by decide) (by decide)))) ⟨n12.1, by omega⟩
  have kR : KP t s R := kU.lx x1
  have tR : TAB R := tU.lx x1
  have e := x1.tbl
  have ecd : cdI R = cdI s + 1 := e.cd.trans uc
  have e5 : slI R = slI s := by rw [e.sl]; unfold slI; rw [ui 42 (by decide) (by decide)]
  have rt : RATE s R := by
    have e2 : enI R = enI s := by rw [e.en]; unfold enI; rw [ui 24 (by decide) (by decide)]
    have e3 : trI R = trI s := by rw [e.tt]; unfold trI; rw [ui 29 (by decide) (by decide)]
    have e4 : caI R = caI s := by rw [e.ca]; unfold caI; rw [ui 33 (by decide) (by decide)]
    have e6 : peI R = peI s := by rw [e.pe]; unfold peI; rw [ui 59 (by decide) (by decide)]
    unfold RATE
    omega
  have ss : SAME s R := SAME.tr (show SAME s U from ⟨ui 19 (by decide) (by decide), ui 43 (by decide) (by decide), ui 52 (by decide) (by decide), ui 56 (by decide) (by decide)⟩) (x1.same x2)
  have e38 : R.i 38 = s.i 38 := x1.i38.trans (ui 38 (by decide) (by decide))
  have tp : tpI R = t := x1.tp.trans ((congrArg Int32.toInt (ui 63 (by decide) (by decide))).trans ht)
  exact ⟨R, eR, ⟨hI.mkS kR x1.2.2.2.1 r15 tR ss (SNW.eq e38 kR.2.2.2.2.2.1.2.1) rt (by omega) (by omega), tp, kR, ss, e38, rt, by omega, by omega⟩, ecd, x1.1, fun q => by have := c3 (Or.inl (by rw [u10]; exact q)); omega, e5, x1⟩
/-- inside a for's head, before anything of it is laid -/
def HD (t : Nat) (s w : RS) : Prop := MF t s w ∧ w.i 38 = s.i 38 ∧ slI w = slI s ∧ cdI w = cdI s + 1 ∧ w.a 21 (cdI s).toNat = 1 ∧ w.a 64 t = 12 ∧ w.a 71 t = s.i 38 ∧ fr s + 3 ≤ fr w
theorem HD.step {t : Nat} {s u w : RS} (h : HD t s u) (m : MF t s w) (tb : TBL u w) (a64 : w.a 64 t = u.a 64 t) (a71 : w.a 71 t = u.a 71 t) (f : fr u ≤ fr w) : HD t s w := ⟨m, (tb.2.2 38 (by omega) (by omega) (by omega) (by omega)).trans h.2.1, tb.sl.trans h.2.2.1, tb.cd.trans h.2.2.2.1, by rw [tb.1 21 (by omega)]; exact h.2.2.2.2.1, a64.trans h.2.2.2.2.2.1, a71.trans h.2.2.2.2.2.2.1, by have := h.2.2.2.2.2.2.2; omega⟩
theorem HD.nx {t : Nat} {s u w : RS} (h : HD t s u) (i : INV w) (x : LX u w) (h19 : w.i 19 = u.i 19) (hf : fr u + 1 ≤ fr w) (tk : tkI w = tkI u + 1) : HD t s w := h.step (h.1.lx i x h19 hf tk) x.tbl (by rw [x.1]) (by rw [x.1]) (by omega)
theorem HD.loc {t : Nat} {s u : RS} (h : HD t s u) {k : Nat} (v : Int32) (h1 : 65 ≤ k) (h2 : k ≤ 70) : HD t s (u.setA k t v) := h.step (h.1.loc v (by omega) (by omega)) (TBL.loc u t v (by omega) (by omega)) (congrFun (setA_nk (by omega)) t) (congrFun (setA_nk (by omega)) t) (Int.le_refl _)
theorem HD.opn {t : Nat} {s R O : RS} (mR : MM t s R) (i : INV O) (k : KP t R O) (tb : TBL R O) (h19 : O.i 19 = R.i 19 + 1) (hop : op O = op R + 1) (h52 : O.i 52 = R.i 52) (tp : tpI O = tpI R) (hf : fr R + 1 ≤ fr O) (tk : tkI O = tkI R + 1) (ea : O.a = R.a) (sl : slI R = slI s) (cR : cdI R = cdI s + 1) (R21 : R.a 21 (cdI s).toNat = 1) (R64 : R.a 64 t = 12) (R71 : R.a 71 t = s.i 38) (f2 : fr s + 2 ≤ fr R) (b46 : bel 46 (goI s) s R) : HD t s O := by
  obtain ⟨a1, a2, a3, a4, a5, a6, a7, a8⟩ := mR
  have ks : KP t s O := a3.tr k (Nat.le_refl _)
  have e38 : O.i 38 = s.i 38 := (tb.2.2 38 (by omega) (by omega) (by omega) (by omega)).trans a5
  exact ⟨⟨i, tp.trans a2, ks, ⟨h19.trans (by rw [a4.1]), (tb.2.2 43 (by omega) (by omega) (by omega) (by omega)).trans a4.2.1, h52.trans a4.2.2.1, (tb.2.2 56 (by omega) (by omega) (by omega) (by omega)).trans a4.2.2.2⟩, SNW.eq e38 ks.2.2.2.2.2.1.2.1, a6.tr (tb.rate (by omega) (by omega)), by omega, by omega, by have := a4.eOp; omega, fun j hj => by rw [ea]; exact b46 j hj⟩, e38, tb.sl.trans sl, tb.cd.trans cR, by rw [ea]; exact R21, by rw [ea]; exact R64, by rw [ea]; exact R71, by omega⟩
/-- int x = .. or int x : .. -/
theorem FOT {N b : Nat} (hN : 4000 ≤ N) (hc' : 1 ≤ b → RUNE N 20 1 20 15 (b - 1)) (hx : 1 ≤ b → RUNE N 16 4 11 24 (b - 1)) (hs : 1 ≤ b → RUNS N (b - 1)) {n : Nat} {s p : RS} {t : Nat} {P : RS → Prop} (hI : INV s) (hp : PRS s) (h9 : t < 998) (hb : 2 * (t : Int) ≤ fr s + 12 * op s + 2) (hcb : 900 - fr s ≤ b) (hF : ∀ u, FS' s u → P u) (hP : HD t s p) (hn : 36000 + 29 ≤ (n : Int) + 1 + 40 * fr s) (n1 : 1 ≤ n) (hC : ∀ (m : Nat) (u : RS), PS t s u → fr s + 1 ≤ fr u → (n : Int) + 1 + 40 * fr s + 11 ≤ m + 40 * fr u → ok (f_X12_parse_10 N m u) P) (tok : p.i 10 = 61 ∨ p.i 10 = 58) {x1 : Int32} (e1 : x1 = p.i 63) : ok ((f_X12_forHead_61 N p x1).bind fun p => f_X12_parse_10 N n p) P := by
  have hN1 : 1000 ≤ N := by omega
  obtain ⟨w, ew, y1, y2, y3, y4, y5, y6, y7⟩ := NX hN1 hP.1.1 (by rcases tok with h | h <;> (rw [h]; decide))
  have hW := hP.nx y4 y1 y3 y5 y6
  obtain ⟨mW, w38, wsl, cw, w21, w64, w71, fw⟩ := id hW
  have fwf := y4.1.f0
  have hf := hI.1.f0
  have cs := hI.cd
  have tpw : tpI w = t := mW.2.1
  have ibx : ib x1 1000 := by rw [e1]; exact tp_ib hP.1.2.1 (by omega)
  have nx : x1.toNatClampNeg = t := by rw [e1]; exact tp_nat hP.1.2.1
  unfold f_X12_forHead_61 f_X12_forHead_76 f_X12_forHead_142
  rw [ew]
  by_cases c : p.i 10 = 58
  case neg =>
    rw [if_neg c]
    show ok ((if (0 : Int32) = 0 then (f_X12_then N w 1 16).bind fun p50 => some p50 else (if (w.i 10) = 434 then (f_X12_next N w).bind fun p45 => (f_X12_emit N p45 20 1).bind fun p47 => if ib x1 1000 then some (RS.setA p47.2 65 x1.toNatClampNeg 12) else none else if ib x1 1000 then (f_X12_then N (RS.setA w 68 x1.toNatClampNeg 0) 10 16).bind fun p43 => some p43 else none) : Option RS).bind fun p => f_X12_parse_10 N n p) P
    rw [if_pos rfl, p_th 1 16 tpw (by omega)]
    exact FO1 hN hc' hx hs hI hp h9 hb hcb hF mW w38 wsl cw w21 fw w64 w71 hn hC
  rw [if_pos c]
  show ok ((if (1 : Int32) = 0 then (f_X12_then N w 1 16).bind fun p50 => some p50 else (if (w.i 10) = 434 then (f_X12_next N w).bind fun p45 => (f_X12_emit N p45 20 1).bind fun p47 => if ib x1 1000 then some (RS.setA p47.2 65 x1.toNatClampNeg 12) else none else if ib x1 1000 then (f_X12_then N (RS.setA w 68 x1.toNatClampNeg 0) 10 16).bind fun p43 => some p43 else none) : Option RS).bind fun p => f_X12_parse_10 N n p) P
  rw [if_neg (by decide), if_pos ibx, nx]
  by_cases c4 : w.i 10 = 434
  · rw [if_pos c4]
    obtain ⟨z, ez, z1, z2, z3, z4, z5, z6, z7⟩ := NX hN1 y4 (by rw [c4]; decide)
    rw [ez]
    have hZ := hW.nx z4 z1 z3 z5 z6
    have cz := z4.cd
    show ok (((f_X12_emit N z 20 1).bind fun p47 => if ib x1 1000 then some (RS.setA p47.2 65 t 12) else none).bind fun p => f_X12_parse_10 N n p) P
    rw [p_em 20 1 cz.1 cz.2.2]
    show ok ((if ib x1 1000 then some ((EM z 20 1).setA 65 t 12) else none : Option RS).bind fun p => f_X12_parse_10 N n p) P
    rw [if_pos ibx]
    show ok (f_X12_parse_10 N n ((EM z 20 1).setA 65 t 12)) P
    obtain ⟨D, hD⟩ : ∃ D, D = (EM z 20 1).setA 65 t 12 := ⟨_, rfl⟩
    obtain ⟨mZ, z38, zsl, czz, z21, z64, z71, fz⟩ := id hZ
    have mD : MF t s D := by rw [hD]; exact (mZ.em hI (by omega)).loc _ (by omega) (by omega)
    have cD : cdI D = cdI s + 2 := by rw [hD]; exact (EM.cd (u := z) (o := 20) (x := 1) cz.1 cz.2.2).trans (by omega)
    have D21 : ∀ j : Nat, D.a 21 j = if j = (cdI z).toNat then 20 else z.a 21 j := fun j => by rw [hD, setA_nk (by decide)]; exact EM.a21 j
    have D22 : D.a 22 (cdI z).toNat = 1 := by rw [hD, setA_nk (by decide), EM.a22, if_pos rfl]
    have D65 : D.a 65 t = 12 := by rw [hD]; exact setA_at
    have lD : ∀ k : Nat, 64 ≤ k → k ≤ 73 → k ≠ 65 → D.a k t = z.a k t := fun k h1 h2 h3 => by rw [hD, setA_nk h3, EM.a (by omega) (by omega) (by omega)]
    have fD : fr D = fr z := by rw [hD]; rfl
    have slD : slI D = slI z := by rw [hD]; rfl
    rw [← hD]
    clear hD
    have fzf := z4.1.f0
    obtain ⟨m', rfl⟩ : ∃ m', n = m' + 1 := ⟨n - 1, by omega⟩
    have push' : ((m' + 1 : Nat) : Int) = (m' : Int) + 1 := by omega
    rw [push'] at hn hC
    refine RO12 (m := m') hN hs hI hp h9 hb hcb hF mD (by omega) ?_ D65 ?_ (by omega) (by omega) (RWT.raise hI mD.2.2.1 (by omega) ?_ ?_ ?_) (by omega) (by omega) (fun m4 u' hu hf hm => hC m4 u' hu (by omega) (by omega))
    · rw [lD 64 (by omega) (by omega) (by decide)]; exact z64
    · rw [lD 71 (by omega) (by omega) (by decide)]; exact z71
    · rw [D21, if_neg (by omega)]; exact z21
    · rw [D21, if_pos (by rw [czz])]
    · rw [← czz]; exact D22
  rw [if_neg c4]
  obtain ⟨A, hA⟩ : ∃ A, A = w.setA 68 t 0 := ⟨_, rfl⟩
  have hAH : HD t s A := by rw [hA]; exact hW.loc _ (by omega) (by omega)
  have A68 : A.a 68 t = 0 := by rw [hA]; exact setA_at
  have fA : fr A = fr w := by rw [hA]; rfl
  rw [← hA]
  clear hA
  obtain ⟨mA, a38, asl, cA, a21, a64, a71, fA3⟩ := id hAH
  rw [p_th 10 16 mA.2.1 (by omega)]
  exact RO10 (B := (n : Int) + 1 + 40 * fr s + 11) hN hx hs hI hp h9 hb hcb hF mA.2.2.1 cA a21 a38 mA.2.2.2.1.2.2.1 (by omega) hC 900 n 0 A A (by omega) mA a64 a71 (by rw [A68]; decide) a38 (by omega) (by omega) (by omega) (by omega) (fun _ => TEN.zero A) (KP.rf t A) mA.1.tn (KP.rf t A) rfl mA.go (by omega) (by omega)
end
section
/-! reading: for: its first words -/
theorem run_for {N b : Nat} (hN : 4000 ≤ N) (hc' : 1 ≤ b → RUNE N 20 1 20 15 (b - 1)) (hx : 1 ≤ b → RUNE N 16 4 11 24 (b - 1)) (hs : 1 ≤ b → RUNS N (b - 1)) : RUNU N b 12 (fun x => x = 417) := by
  intro n s u t P hI hp ht hu tu u15 hT hz h9 hb hc hn n1 hF hC
  have hN1 : 1000 ≤ N := by omega
  have hf := hI.1.f0
  have cs := hI.cd
  refine lp_12 tu (by omega) u15 hu.2.2.2.2.2.2.1 ?_
  unfold f_X12_fors
  rw [if_pos (tp_ib tu (by omega)), tp_nat tu, if_pos hu.2.2.2.2.2.2.2.1]
  have ibx : ib (u.i 63) 1000 := tp_ib tu (by omega)
  have nx : (u.i 63).toNatClampNeg = t := tp_nat tu
  obtain ⟨x1, ex1⟩ : ∃ x1, x1 = u.i 63 := ⟨_, rfl⟩
  rw [← ex1] at ibx nx ⊢
  have x1t : x1 = u.i 63 := ex1
  obtain ⟨R, eR, mR, cR, aR, fR, slR, xR⟩ := STARTl (k := 71) hN1 (u.i 38) (by omega) (by omega) hI ht hz hu
  rw [eR]
  have fR := fR (by rw [hT]; decide)
  have R21 : R.a 21 (cdI s).toNat = 1 := by rw [aR, setA_nk (by decide)]; exact hu.2.2.2.2.2.1
  have R64 : R.a 64 t = 12 := by rw [aR, setA_nk (by decide)]; exact hu.2.2.2.2.2.2.1
  have R71 : R.a 71 t = s.i 38 := by rw [aR, setA_at]; exact hu.2.1 38 (by decide) (by decide)
  have b46 : bel 46 (goI s) s R := fun j _ => by rw [aR, setA_nk (by decide), hu.2.2.2.2.2.2.2.2 46 (by decide) (by decide) (by decide) (by decide)]
  have r63 : R.i 63 = x1 := by rw [ex1]; exact xR.2.2.1 63 (by omega) (by omega)
  clear ex1 eR aR xR
  show ok (((f_X12_open N R 40).bind fun p5 => (f_X12_forHead N p5.2 x1).bind fun p7 => some p7).bind fun p => f_X12_parse_10 N n p) P
  obtain ⟨p, ep, hpp⟩ := OPO (t := t) hN1 mR.1 40 (by decide)
  rw [ep]
  show ok (((f_X12_forHead N p.2 x1).bind fun p7 => some p7).bind fun p => f_X12_parse_10 N n p) P
  rw [bind_some]
  rcases hpp with ⟨p1, p2, p3⟩ | ⟨p1, p2, p3, q1, q2, q3, q4, q5, q6, q7, q8, q9, q10, q11⟩
  · unfold f_X12_forHead
    rw [if_neg p1]
    exact lp_f p1 (hF _ (FS'.of mR.2.2.1.1.1 p2 p1 mR.1.r)) n1
  obtain ⟨O, hO⟩ : ∃ O, O = p.2 := ⟨_, rfl⟩
  rw [← hO] at p1 q1 q2 q3 q4 q5 q6 q7 q8 q9 q10 q11 ⊢
  clear hO ep
  have hH : HD t s O := HD.opn mR q1 q3 q4 q5 q6 q7 q2 q8 q9 q10 slR cR R21 R64 R71 fR b46
  have o63 : O.i 63 = x1 := by rw [← r63]; exact q11.2.2.1 63 (by omega) (by omega)
  clear q1 q2 q3 q4 q5 q6 q7 q8 q9 q10 q11 R21 R64 R71 b46 slR
  have flt : ∀ (A S : RS), HD t s A → LX A S → ¬ S.i 15 = 0 → ok (f_X12_parse_10 N n S) P := fun A S hA hx h15 => lp_f h15 (hF _ (FS'.of hA.1.2.2.1.1.1 hx h15 hA.1.1.r)) n1
  unfold f_X12_forHead
  rw [if_pos p1]
  by_cases c1 : O.i 10 = 410
  · rw [if_pos c1]
    obtain ⟨w, ew, y1, y2, y3, y4, y5, y6, y7⟩ := NX hN1 hH.1.1 (by rw [c1]; decide)
    rw [ew]
    have hW := hH.nx y4 y1 y3 y5 y6
    obtain ⟨p, ep, hpp⟩ := TLG (t := t) hN1 y4 ibx
    show ok (((f_X12_telling N w x1).bind fun p30 => (if p30.1 = 0 then some p30.2 else (if (p30.2.i 10) = 61 then (f_X12_can N p30.2 1).bind fun p34 => (if p34.1 = 0 then some p34.2 else f_X12_forHead_61 N p34.2 x1) else (if (p30.2.i 10) = 58 then (f_X12_can N p30.2 1).bind fun p56 => (if p56.1 = 0 then some p56.2 else f_X12_forHead_61 N p56.2 x1) else (f_X12_can N p30.2 0).bind fun p53 => (if p53.1 = 0 then some p53.2 else f_X12_forHead_61 N p53.2 x1))))).bind fun p => f_X12_parse_10 N n p) P
    rw [ep]
    show ok ((if p.1 = 0 then some p.2 else (if (p.2.i 10) = 61 then (f_X12_can N p.2 1).bind fun p34 => (if p34.1 = 0 then some p34.2 else f_X12_forHead_61 N p34.2 x1) else (if (p.2.i 10) = 58 then (f_X12_can N p.2 1).bind fun p56 => (if p56.1 = 0 then some p56.2 else f_X12_forHead_61 N p56.2 x1) else (f_X12_can N p.2 0).bind fun p53 => (if p53.1 = 0 then some p53.2 else f_X12_forHead_61 N p53.2 x1))) : Option RS).bind fun p => f_X12_parse_10 N n p) P
    rcases hpp with ⟨p1, p2, p3⟩ | ⟨p1, q1, q2, q3, q4, q5, q6, q7, q8⟩
    · rw [if_pos p1]
      exact flt w p.2 hW p3 p2
    rw [if_neg (by rw [p1]; decide)]
    obtain ⟨A, hA⟩ : ∃ A, A = p.2 := ⟨_, rfl⟩
    rw [← hA] at q1 q2 q3 q4 q5 q6 q7 q8 ⊢
    clear hA ep
    have tA : tpI A = t := q2.trans hW.1.2.1
    have mA : MF t s A := hW.1.step q1 q4 q3 q5.1 q5.2.2.1 q2 (by omega) (by omega) (by omega)
    have hHA : HD t s A := hW.step mA q4 (by rw [q8]) (by rw [q8]) (by omega)
    have a63 : x1 = A.i 63 := by
      have e1 : (A.i 63).toInt = (O.i 63).toInt := tA.trans hH.1.2.1.symm
      exact (Int32.toInt_inj.mp (e1.trans (by rw [o63]))).symm
    have cn1 : ok ((f_X12_can N A 1).bind fun p34 => (if p34.1 = 0 then some p34.2 else f_X12_forHead_61 N p34.2 x1)) (fun _ => True) ∨ True := Or.inr trivial
    clear cn1
    have c61 : (A.i 10 = 61 ∨ A.i 10 = 58) → ok (((f_X12_can N A 1).bind fun p34 => (if p34.1 = 0 then some p34.2 else f_X12_forHead_61 N p34.2 x1)).bind fun p => f_X12_parse_10 N n p) P := fun tok => by
      obtain ⟨G, eG, g1, g2, hG⟩ := p_cn (N := N) mA.1.1 1
      rw [eG]
      rcases hG with ⟨g3, g4⟩ | ⟨g3, g4, g5, g6⟩
      · show ok ((if G.1 = 0 then some G.2 else f_X12_forHead_61 N G.2 x1 : Option RS).bind fun p => f_X12_parse_10 N n p) P
        rw [if_pos g3]
        exact flt A G.2 hHA g1 g4
      · show ok ((if G.1 = 0 then some G.2 else f_X12_forHead_61 N G.2 x1 : Option RS).bind fun p => f_X12_parse_10 N n p) P
        rw [if_neg (by rw [g3]; decide), g4]
        exact FOT hN hc' hx hs hI hp h9 hb hc hF hHA hn n1 hC tok a63
    by_cases d1 : A.i 10 = 61
    · rw [if_pos d1]; exact c61 (Or.inl d1)
    rw [if_neg d1]
    by_cases d2 : A.i 10 = 58
    · rw [if_pos d2]; exact c61 (Or.inr d2)
    rw [if_neg d2]
    obtain ⟨G, eG, g1, g2, hG⟩ := p_cn (N := N) mA.1.1 0
    rw [eG]
    rcases hG with ⟨g3, g4⟩ | ⟨g3, g4, g5, g6⟩
    · show ok ((if G.1 = 0 then some G.2 else f_X12_forHead_61 N G.2 x1 : Option RS).bind fun p => f_X12_parse_10 N n p) P
      rw [if_pos g3]
      exact flt A G.2 hHA g1 g4
    · exact absurd rfl g6
  rw [if_neg c1]
  by_cases c2 : O.i 10 = 2
  · rw [if_pos c2]
    obtain ⟨p, ep, hpp⟩ := GOT hN1 hH.1.1 O.l (O.i 11)
    rw [ep]
    show ok ((if ib x1 1000 then (f_X12_next N (RS.setA p.2 66 (x1.toNatClampNeg) p.1)).bind fun p15 => (if (p15.i 10) = 61 then (f_X12_can N p15 1).bind fun p25 => (if p25.1 = 0 then some p25.2 else f_X12_forHead_196 N p25.2) else (f_X12_can N p15 0).bind fun p18 => (if p18.1 = 0 then some p18.2 else f_X12_forHead_196 N p18.2)) else none : Option RS).bind fun p => f_X12_parse_10 N n p) P
    rw [if_pos ibx, nx]
    rcases hpp with ⟨z1, z2⟩ | ⟨z1, z2⟩
    · have tS : FS' s (p.2.setA 66 t p.1) := FS'.loc (FS'.of hH.1.2.2.1.1.1 z2 z1 hH.1.1.r) t p.1 (by omega) (by omega)
      have lS : LXI (p.2.setA 66 t p.1) := z2.2.2.2.1
      obtain ⟨E, eE, e1, e2, e3, e4⟩ := p_nx hN1 lS
      have eEE : E = p.2.setA 66 t p.1 := e3 z1
      rw [eE]
      have E15 : ¬ E.i 15 = 0 := by rw [eEE]; exact z1
      have E75 : E.i 75 = 0 ∨ E.i 75 = 1 := by rw [eEE]; exact tS.2.2
      have KE : K1 s E := by rw [eEE]; exact tS.2.1
      have fin : ∀ y : Int32, ok (((f_X12_can N E y).bind fun p25 => (if p25.1 = 0 then some p25.2 else f_X12_forHead_196 N p25.2)).bind fun p => f_X12_parse_10 N n p) P := fun y => by
        obtain ⟨G, eG, g1, g2, hG⟩ := p_cn (N := N) e1.2.2.2.1 y
        rw [eG]
        rcases hG with ⟨g3, g4⟩ | ⟨g3, g4, g5, g6⟩
        · show ok ((if G.1 = 0 then some G.2 else f_X12_forHead_196 N G.2 : Option RS).bind fun p => f_X12_parse_10 N n p) P
          rw [if_pos g3]
          exact lp_f g4 (hF _ (FS'.of KE g1 g4 E75)) n1
        · exact absurd g5 E15
      show ok ((if (E.i 10) = 61 then (f_X12_can N E 1).bind fun p25 => (if p25.1 = 0 then some p25.2 else f_X12_forHead_196 N p25.2) else (f_X12_can N E 0).bind fun p18 => (if p18.1 = 0 then some p18.2 else f_X12_forHead_196 N p18.2) : Option RS).bind fun p => f_X12_parse_10 N n p) P
      by_cases d : E.i 10 = 61
      · rw [if_pos d]; exact fin 1
      · rw [if_neg d]; exact fin 0
    rw [z1]
    obtain ⟨sl, esl⟩ : ∃ sl, sl = p.1 := ⟨_, rfl⟩
    rw [← esl] at z2 ⊢
    clear esl z1 ep
    have hsl : SLT s sl := SLT.kp z2 hH.2.1 hH.1.2.2.1
    obtain ⟨A, hA⟩ : ∃ A, A = O.setA 66 t sl := ⟨_, rfl⟩
    have hHA : HD t s A := by rw [hA]; exact hH.loc _ (by omega) (by omega)
    have A66 : A.a 66 t = sl := by rw [hA]; exact setA_at
    have A10 : A.i 10 = 2 := by rw [hA]; exact c2
    rw [← hA]
    clear hA
    obtain ⟨w, ew, y1, y2, y3, y4, y5, y6, y7⟩ := NX hN1 hHA.1.1 (by rw [A10]; decide)
    rw [ew]
    have hW := hHA.nx y4 y1 y3 y5 y6
    have w66 : w.a 66 t = sl := by rw [y1.1]; exact A66
    show ok ((if (w.i 10) = 61 then (f_X12_can N w 1).bind fun p25 => (if p25.1 = 0 then some p25.2 else f_X12_forHead_196 N p25.2) else (f_X12_can N w 0).bind fun p18 => (if p18.1 = 0 then some p18.2 else f_X12_forHead_196 N p18.2) : Option RS).bind fun p => f_X12_parse_10 N n p) P
    by_cases d : w.i 10 = 61
    · rw [if_pos d]
      obtain ⟨G, eG, g1, g2, hG⟩ := p_cn (N := N) hW.1.1.1 1
      rw [eG]
      show ok ((if G.1 = 0 then some G.2 else f_X12_forHead_196 N G.2 : Option RS).bind fun p => f_X12_parse_10 N n p) P
      rcases hG with ⟨g3, g4⟩ | ⟨g3, g4, g5, g6⟩
      · rw [if_pos g3]
        exact flt w G.2 hW g1 g4
      rw [if_neg (by rw [g3]; decide), g4]
      clear eG g1 g2 g3 g4
      obtain ⟨z, ez, z1, z2, z3, z4, z5, z6, z7⟩ := NX hN1 hW.1.1 (by rw [d]; decide)
      have hZ := hW.nx z4 z1 z3 z5 z6
      unfold f_X12_forHead_196
      rw [ez]
      show ok (((f_X12_then N z 2 16).bind fun p22 => some p22).bind fun p => f_X12_parse_10 N n p) P
      obtain ⟨mZ, z38, zsl, cz, z21, z64, z71, fz⟩ := id hZ
      rw [p_th 2 16 mZ.2.1 (by omega)]
      exact FO2 hN hc' hx hs hI hp h9 hb hc hF mZ z38 cz z21 fz z64 (by rw [z1.1]; exact w66) hsl z71 hn hC
    · rw [if_neg d]
      obtain ⟨G, eG, g1, g2, hG⟩ := p_cn (N := N) hW.1.1.1 0
      rw [eG]
      show ok ((if G.1 = 0 then some G.2 else f_X12_forHead_196 N G.2 : Option RS).bind fun p => f_X12_parse_10 N n p) P
      rcases hG with ⟨g3, g4⟩ | ⟨g3, g4, g5, g6⟩
      · rw [if_pos g3]
        exact flt w G.2 hW g1 g4
      · exact absurd rfl g6
  rw [if_neg c2]
  by_cases c3 : O.i 10 = 59
  · rw [if_pos c3]
    obtain ⟨G, eG, g1, g2, hG⟩ := p_cn (N := N) hH.1.1.1 1
    rw [eG]
    show ok ((if G.1 = 0 then some G.2 else f_X12_forHead_231 N G.2 x1 : Option RS).bind fun p => f_X12_parse_10 N n p) P
    rcases hG with ⟨g3, g4⟩ | ⟨g3, g4, g5, g6⟩
    · rw [if_pos g3]
      exact flt O G.2 hH g1 g4
    rw [if_neg (by rw [g3]; decide), g4]
    clear eG g1 g2 g3 g4
    unfold f_X12_forHead_231
    rw [if_pos ibx, nx]
    show ok (f_X12_parse_10 N n (O.setA 65 t 3)) P
    obtain ⟨I, hII⟩ : ∃ I, I = O.setA 65 t 3 := ⟨_, rfl⟩
    have hJ : HD t s I := by rw [hII]; exact hH.loc _ (by omega) (by omega)
    have I65 : I.a 65 t = 3 := by rw [hII]; exact setA_at
    rw [← hII]
    clear hII
    obtain ⟨mI, i38, isl, cI, i21, i64, i71, fI⟩ := id hJ
    obtain ⟨m', rfl⟩ : ∃ m', n = m' + 1 := ⟨n - 1, by omega⟩
    have push' : ((m' + 1 : Nat) : Int) = (m' : Int) + 1 := by omega
    rw [push'] at hn hC
    have fIf := mI.1.1.f0
    exact FO3 (m := m') hN hc' hx hs hI hp h9 hb hc hF mI (fun z => TS.i0 cs.1 cI i21 rfl) i64 I65 i71 (by omega) (by omega) (fun m4 u hu hf hm => hC m4 u hu (by omega) (by omega))
  · rw [if_neg c3]
    obtain ⟨G, eG, g1, g2, hG⟩ := p_cn (N := N) hH.1.1.1 0
    rw [eG]
    show ok ((if G.1 = 0 then some G.2 else f_X12_forHead_231 N G.2 x1 : Option RS).bind fun p => f_X12_parse_10 N n p) P
    rcases hG with ⟨g3, g4⟩ | ⟨g3, g4, g5, g6⟩
    · rw [if_pos g3]
      exact flt O G.2 hH g1 g4
    · exact absurd rfl g6
end
section
/-! reading: the entries of a switch -/
/-- the chain of a switch's entries, in their order -/
def ENCH (u : RS) : Int → List Nat → Prop
  | x, [] => x < 0
  | x, j :: L => x = (j : Int) ∧ (∀ i ∈ L, j < i) ∧ ENCH u (gv u 27 j) L
theorem ENCH.of {s u : RS} : ∀ {L : List Nat} {x : Int}, ENCH s x L → (∀ j ∈ L, gv u 27 j = gv s 27 j) → ENCH u x L
  | [], _, h, _ => h
  | j :: L, _, ⟨h1, h2, h3⟩, hu => by
    refine ⟨h1, h2, ?_⟩
    rw [hu j (List.mem_cons_self ..)]
    exact ENCH.of h3 (fun i hi => hu i (List.mem_cons_of_mem _ hi))
theorem ENCH.snoc {s u : RS} {e j : Nat} : ∀ {M : List Nat} {x : Int}, ENCH s x (M ++ [j]) → (∀ i ∈ M, gv u 27 i = gv s 27 i) → gv u 27 j = (e : Int) → gv u 27 e < 0 → (∀ i ∈ M, i < e) → j < e → ENCH u x (M ++ [j] ++ [e])
  | [], x, h, hu, hj, he, hM, hlt => by
    have h : ENCH s x (j :: []) := h
    show ENCH u x (j :: e :: [])
    refine ⟨h.1, fun i hi => ?_, ?_⟩
    · rcases List.mem_cons.mp hi with q | q
      · rw [q]; exact hlt
      · exact absurd q List.not_mem_nil
    · rw [hj]
      exact ⟨rfl, fun i hi => absurd hi List.not_mem_nil, he⟩
  | m :: M, x, h, hu, hj, he, hM, hlt => by
    have h : ENCH s x (m :: (M ++ [j])) := h
    show ENCH u x (m :: (M ++ [j] ++ [e]))
    obtain ⟨h1, h2, h3⟩ := h
    refine ⟨h1, fun i hi => ?_, ?_⟩
    · rcases List.mem_append.mp hi with q | q
      · exact h2 i q
      · rcases List.mem_cons.mp q with q | q
        · rw [q]; exact hM m (List.mem_cons_self ..)
        · exact absurd q List.not_mem_nil
    · rw [hu m (List.mem_cons_self ..)]
      exact ENCH.snoc h3 (fun i hi => hu i (List.mem_cons_of_mem _ hi)) hj he (fun i hi => hM i (List.mem_cons_of_mem _ hi)) hlt
theorem ENCH.inn {W : RS} {j : Nat} : ∀ {n : Nat} {x : Int} {L : List Nat}, entryIn W j n x → ENCH W x L → j ∈ L
  | 0, _, _, h, _ => h.elim
  | n + 1, x, [], h, q => by
    have q : x < 0 := q
    have := h.1
    omega
  | n + 1, x, i :: L, h, q => by
    obtain ⟨h0, h1⟩ := h
    obtain ⟨q1, q2, q3⟩ := q
    rcases h1 with h1 | h1
    · have : j = i := by omega
      rw [this]; exact List.mem_cons_self ..
    · have e : x.toNat = i := by omega
      rw [e] at h1
      exact List.mem_cons_of_mem _ (ENCH.inn h1 q3)
theorem ENCH.mem {W : RS} {j : Nat} : ∀ {n : Nat} {x : Int} {L : List Nat}, ENCH W x L → j ∈ L → L.length ≤ n → entryIn W j n x
  | _, _, [], _, h, _ => absurd h List.not_mem_nil
  | 0, _, _ :: _, _, _, h => absurd h (Nat.not_succ_le_zero _)
  | n + 1, x, i :: L, q, h, hn => by
    obtain ⟨q1, q2, q3⟩ := q
    refine ⟨by omega, ?_⟩
    rcases List.mem_cons.mp h with h | h
    · left; rw [q1, h]
    · right
      have e : x.toNat = i := by omega
      rw [e]
      exact ENCH.mem q3 h (Nat.le_of_succ_le_succ hn)
theorem ENCH.nd {W : RS} : ∀ {L : List Nat} {x : Int}, ENCH W x L → ND L
  | [], _, _ => True.intro
  | i :: L, _, q => ⟨fun h => by have := q.2.1 i h; omega, ENCH.nd q.2.2⟩
theorem ENCH.nxt {W : RS} {j : Nat} : ∀ {L : List Nat} {x : Int}, ENCH W x L → j ∈ L → gv W 27 j < 0 ∨ ∃ i ∈ L, gv W 27 j = (i : Int) ∧ j < i
  | [], _, _, h => absurd h List.not_mem_nil
  | i :: [], _, q, h => by
    rcases List.mem_cons.mp h with h | h
    · subst h; exact Or.inl q.2.2
    · exact absurd h List.not_mem_nil
  | i :: m :: L, _, q, h => by
    rcases List.mem_cons.mp h with h | h
    · subst h
      have q3 : ENCH W (gv W 27 j) (m :: L) := q.2.2
      exact Or.inr ⟨m, List.mem_cons_of_mem _ (List.mem_cons_self ..), q3.1, q.2.1 m (List.mem_cons_self ..)⟩
    · rcases ENCH.nxt (L := m :: L) q.2.2 h with r | ⟨y, y1, y2, y3⟩
      · exact Or.inl r
      · exact Or.inr ⟨y, List.mem_cons_of_mem _ y1, y2, y3⟩
/-- the frame knows the chain's last -/
def FQ (u : RS) (t : Nat) (L : List Nat) : Prop := L = [] ∧ (u.a 67 t).toInt < 0 ∨ ∃ (M : List Nat) (j : Nat), L = M ++ [j] ∧ (u.a 67 t).toInt = (j : Int)
/-- an entry more -/
def ENT (t c0 : Nat) (L : List Nat) (y : Int32) (u U : RS) : Prop := (∀ j : Nat, j ≠ 24 → U.i j = u.i j) ∧ enI U = enI u + 1 ∧ U.b = u.b ∧ (∀ k : Nat, k ≠ 22 → ¬ (25 ≤ k ∧ k ≤ 28) → k ≠ 67 → U.a k = u.a k) ∧ (∀ j : Nat, j ≠ t → U.a 67 j = u.a 67 j) ∧ (U.a 67 t).toInt = enI u ∧ (∀ j : Nat, j ≠ c0 → U.a 22 j = u.a 22 j) ∧ (∀ k j : Nat, 25 ≤ k → k ≤ 28 → j ≠ (enI u).toNat → k ≠ 27 ∨ j ∉ L → U.a k j = u.a k j) ∧ U.a 26 (enI u).toNat = u.i 20 ∧ gv U 27 (enI u).toNat = -1 ∧ U.a 28 (enI u).toNat = y ∧ ENCH U (gv U 22 c0) (L ++ [(enI u).toNat])
theorem setI_a {s : RS} {j : Nat} {v : Int32} : (s.setI j v).a = s.a := rfl
theorem p_en {N : Nat} {u : RS} {t c0 : Nat} {L : List Nat} {x1 : Int32} (x2 x3 : Int32) (ibx : ib x1 1000) (nx : x1.toNatClampNeg = t) (h24 : 0 ≤ enI u) (h5 : enI u < 500) (h66 : (u.a 66 t).toInt = (c0 : Int)) (hc : c0 < 3000) (hq : FQ u t L) (hch : ENCH u (gv u 22 c0) L) (hL : ∀ j ∈ L, (j : Int) < enI u) : ∃ U, f_X12_entry N u x1 x2 x3 = some U ∧ ENT t c0 L (vp_nar .boolean x3) u U := by
  obtain ⟨e, he⟩ : ∃ e, e = (enI u).toNat := ⟨_, rfl⟩
  have ee : (e : Int) = enI u := by rw [he]; exact Int.toNat_of_nonneg h24
  have n24 : (u.i 24).toNatClampNeg = e := he.symm
  have i24 : ib (u.i 24) 500 := ⟨h24, h5⟩
  have n66 := k_nat h66
  have i66 : ib (u.a 66 t) 3000 := ⟨by omega, by omega⟩
  have m1 : (-1 : Int32).toInt = -1 := by decide
  have e1 : (1 : Int32).toInt = 1 := by decide
  have h24' : 0 ≤ (u.i 24).toInt := h24
  have h5' : (u.i 24).toInt < 500 := h5
  have ex24 : (u.i 24 + 1).toInt = (u.i 24).toInt + 1 := by rw [toInt_add] <;> rw [e1] <;> omega
  obtain ⟨A, hA⟩ : ∃ A, A = ((RS.setA u 25 e x2).setA 26 e (u.i 20)) := ⟨_, rfl⟩
  obtain ⟨B, hB⟩ : ∃ B, B = ((A.setA 27 e (-1)).setA 28 e (vp_nar .boolean x3)) := ⟨_, rfl⟩
  have iB : B.i = u.i := by rw [hB, hA]; rfl
  have bB : B.b = u.b := by rw [hB, hA]; rfl
  have aB : ∀ k : Nat, ¬ (25 ≤ k ∧ k ≤ 28) → B.a k = u.a k := fun k hk => by rw [hB, setA_nk (by omega), setA_nk (by omega), hA, setA_nk (by omega), setA_nk (by omega)]
  have jB : ∀ k j : Nat, j ≠ e → B.a k j = u.a k j := fun k j hj => by rw [hB, setA_ne hj, setA_ne hj, hA, setA_ne hj, setA_ne hj]
  have B26 : B.a 26 e = u.i 20 := by rw [hB, setA_nk (by decide), setA_nk (by decide), hA]; exact setA_at
  have B27 : B.a 27 e = -1 := by rw [hB, setA_nk (by decide)]; exact setA_at
  have B28 : B.a 28 e = vp_nar .boolean x3 := by rw [hB]; exact setA_at
  unfold f_X12_entry
  rw [if_pos i24, if_pos ibx, nx, n24, ← hA, ← hB]
  rcases hq with ⟨q1, q2⟩ | ⟨M, j, q1, q2⟩
  · subst q1
    have c : ¬ (0 : Int32) ≤ u.a 67 t := fun z => by
      have := Int32.le_iff_toInt_le.mp z
      rw [z_t0] at this
      omega
    rw [if_neg c, if_pos i66, n66]
    unfold f_X12_entry_85
    rw [if_pos ibx, nx]
    refine ⟨_, rfl, ?_⟩
    obtain ⟨D, hD⟩ : ∃ D, D = (B.setA 22 c0 (u.i 24)).setA 67 t ((B.setA 22 c0 (u.i 24)).i 24) := ⟨_, rfl⟩
    have iD : D.i = u.i := by rw [hD]; exact iB
    have d24 : (B.setA 22 c0 (u.i 24)).i 24 = u.i 24 := by show B.i 24 = _; rw [iB]
    rw [← hD]
    have aD : ∀ k : Nat, k ≠ 22 → k ≠ 67 → D.a k = B.a k := fun k h1 h2 => by rw [hD, setA_nk h2, setA_nk h1]
    have D67 : ∀ j : Nat, j ≠ t → D.a 67 j = B.a 67 j := fun j hj => by rw [hD, setA_ne hj, setA_nk (by decide)]
    have D67t : D.a 67 t = u.i 24 := by rw [hD, setA_at, d24]
    have D22 : ∀ j : Nat, j ≠ c0 → D.a 22 j = B.a 22 j := fun j hj => by rw [hD, setA_nk (by decide), setA_ne hj]
    have D22c : D.a 22 c0 = u.i 24 := by rw [hD, setA_nk (by decide), setA_at]
    have bD : D.b = u.b := by rw [hD]; exact bB
    rw [d24]
    clear hD
    unfold ENT
    rw [← he]
    refine ⟨fun j hj => (if_neg hj).trans (by rw [iD]), ex24, bD, fun k h1 h2 h3 => ?_, fun j hj => ?_, ?_, fun j hj => ?_, fun k j h1 h2 h3 _ => ?_, ?_, ?_, ?_, ?_⟩
    · rw [setI_a, aD k h1 h3]; exact aB k h2
    · rw [setI_a, D67 j hj, aB 67 (by omega)]
    · rw [setI_a, D67t]; rfl
    · rw [setI_a, D22 j hj, aB 22 (by omega)]
    · rw [setI_a, aD k (by omega) (by omega)]; exact jB k j h3
    · rw [setI_a, aD 26 (by decide) (by decide)]; exact B26
    · unfold gv; rw [setI_a, aD 27 (by decide) (by decide), B27]; exact m1
    · rw [setI_a, aD 28 (by decide) (by decide)]; exact B28
    · show ENCH _ _ (e :: [])
      refine ⟨?_, fun i hi => absurd hi List.not_mem_nil, ?_⟩
      · unfold gv; rw [setI_a, D22c]; exact ee.symm
      · show gv _ 27 e < 0
        unfold gv; rw [setI_a, aD 27 (by decide) (by decide), B27, m1]; decide
  · subst q1
    have jL : (j : Int) < enI u := hL j (List.mem_append_right _ (List.mem_cons_self ..))
    have c : (0 : Int32) ≤ u.a 67 t := Int32.le_iff_toInt_le.mpr (by rw [z_t0]; omega)
    have i67 : ib (u.a 67 t) 500 := ⟨by omega, by omega⟩
    have n67 := k_nat q2
    rw [if_pos c, if_pos i67, n67]
    unfold f_X12_entry_85
    rw [if_pos ibx, nx]
    refine ⟨_, rfl, ?_⟩
    obtain ⟨D, hD⟩ : ∃ D, D = (B.setA 27 j (u.i 24)).setA 67 t ((B.setA 27 j (u.i 24)).i 24) := ⟨_, rfl⟩
    have iD : D.i = u.i := by rw [hD]; exact iB
    have d24 : (B.setA 27 j (u.i 24)).i 24 = u.i 24 := by show B.i 24 = _; rw [iB]
    rw [← hD]
    have aD : ∀ k : Nat, k ≠ 27 → k ≠ 67 → D.a k = B.a k := fun k h1 h2 => by rw [hD, setA_nk h2, setA_nk h1]
    have D67 : ∀ j : Nat, j ≠ t → D.a 67 j = B.a 67 j := fun j hj => by rw [hD, setA_ne hj, setA_nk (by decide)]
    have D67t : D.a 67 t = u.i 24 := by rw [hD, setA_at, d24]
    have D27 : ∀ i : Nat, i ≠ j → D.a 27 i = B.a 27 i := fun i hi => by rw [hD, setA_nk (by decide), setA_ne hi]
    have D27j : D.a 27 j = u.i 24 := by rw [hD, setA_nk (by decide), setA_at]
    have bD : D.b = u.b := by rw [hD]; exact bB
    rw [d24]
    clear hD
    unfold ENT
    rw [← he]
    have ej : e ≠ j := by omega
    have D27e : D.a 27 e = -1 := by rw [D27 e ej]; exact B27
    have inM : ∀ i ∈ M, i ≠ j := fun i hi => by
      have nd : ∀ {M : List Nat} {x : Int}, ENCH u x (M ++ [j]) → ∀ i ∈ M, i < j := fun {M} => by
        induction M with
        | nil => intro x _ i hi; exact absurd hi List.not_mem_nil
        | cons m M ih =>
          intro x h i hi
          have h : ENCH u x (m :: (M ++ [j])) := h
          rcases List.mem_cons.mp hi with q | q
          · rw [q]; exact h.2.1 j (List.mem_append_right _ (List.mem_cons_self ..))
          · exact ih h.2.2 i q
      have := nd hch i hi
      omega
    refine ⟨fun i hi => (if_neg hi).trans (by rw [iD]), ex24, bD, fun k h1 h2 h3 => ?_, fun i hi => ?_, ?_, fun i hi => ?_, fun k i h1 h2 h3 h4 => ?_, ?_, ?_, ?_, ?_⟩
    · rw [setI_a, aD k (by omega) h3]; exact aB k h2
    · rw [setI_a, D67 i hi, aB 67 (by omega)]
    · rw [setI_a, D67t]; rfl
    · rw [setI_a, aD 22 (by decide) (by decide), aB 22 (by omega)]
    · by_cases c27 : k = 27
      · subst c27
        have : i ≠ j := fun q => by
          rcases h4 with h4 | h4
          · exact h4 rfl
          · exact h4 (by rw [q]; exact List.mem_append_right _ (List.mem_cons_self ..))
        rw [setI_a, D27 i this]; exact jB 27 i h3
      · rw [setI_a, aD k c27 (by omega)]; exact jB k i h3
    · rw [setI_a, aD 26 (by decide) (by decide)]; exact B26
    · unfold gv; rw [setI_a, D27e]; exact m1
    · rw [setI_a, aD 28 (by decide) (by decide)]; exact B28
    · have e22 : gv (D.setI 24 (u.i 24 + 1)) 22 c0 = gv u 22 c0 := by unfold gv; rw [setI_a, aD 22 (by decide) (by decide), aB 22 (by omega)]
      rw [e22]
      refine ENCH.snoc hch (fun i hi => ?_) ?_ ?_ (fun i hi => ?_) (by omega)
      · have := hL i (List.mem_append_left _ hi)
        unfold gv; rw [setI_a, D27 i (inM i hi), jB 27 i (by omega)]
      · unfold gv; rw [setI_a, D27j]; exact ee.symm
      · unfold gv; rw [setI_a, D27e, m1]; decide
      · have := hL i (List.mem_append_left _ hi)
        omega
theorem ENT.fq {t c0 : Nat} {L : List Nat} {y : Int32} {u U : RS} (h : ENT t c0 L y u U) (h0 : 0 ≤ enI u) : FQ U t (L ++ [(enI u).toNat]) := Or.inr ⟨L, _, rfl, by rw [h.2.2.2.2.2.1]; exact (Int.toNat_of_nonneg h0).symm⟩
theorem ENT.cd {t c0 : Nat} {L : List Nat} {y : Int32} {u U : RS} (h : ENT t c0 L y u U) : cdI U = cdI u := by unfold cdI; rw [h.1 20 (by decide)]
theorem ENT.go {t c0 : Nat} {L : List Nat} {y : Int32} {u U : RS} (h : ENT t c0 L y u U) : goI U = goI u := by unfold goI; rw [h.1 43 (by decide)]
theorem ENT.g {t c0 : Nat} {L : List Nat} {y : Int32} {u U : RS} (h : ENT t c0 L y u U) {k : Nat} (h1 : k ≠ 22) (h2 : ¬ (25 ≤ k ∧ k ≤ 28)) (h3 : k ≠ 67) (i : Nat) : gv U k i = gv u k i := gv_of (h.2.2.2.1 k h1 h2 h3) i
theorem ENT.isch {t c0 : Nat} {L : List Nat} {y : Int32} {u U : RS} (h : ENT t c0 L y u U) (hc : ¬ u.a 21 c0 = 36) {x : Int} {M : List Nat} (hi : ISCH u x M) : ISCH U x M := hi.of (fun z hz => ⟨by rw [h.2.2.2.1 21 (by decide) (by omega) (by decide)], h.2.2.2.2.2.2.1 z (fun q => hc (by rw [← q]; exact hi.op z hz))⟩)
theorem ENT.ischb {t c0 : Nat} {L : List Nat} {y : Int32} {u U : RS} (h : ENT t c0 L y u U) (hc : ¬ u.a 21 c0 = 36) {x : Int} {M : List Nat} (hi : ISCH U x M) : ISCH u x M := hi.of (fun z hz => ⟨by rw [h.2.2.2.1 21 (by decide) (by omega) (by decide)], (h.2.2.2.2.2.2.1 z (fun q => hc (by rw [← q, ← h.2.2.2.1 21 (by decide) (by omega) (by decide)]; exact hi.op z hz))).symm⟩)
theorem ENT.hd {t c0 : Nat} {L : List Nat} {y : Int32} {u U : RS} (h : ENT t c0 L y u U) (b : Bool) (γ : Nat) : hd U b γ = hd u b γ := by
  cases b
  · exact h.g (k := 49) (by decide) (by omega) (by decide) γ
  · exact h.g (k := 48) (by decide) (by omega) (by decide) γ
theorem ENT.opn {t c0 : Nat} {L : List Nat} {y : Int32} {u U : RS} (h : ENT t c0 L y u U) (hc : ¬ u.a 21 c0 = 36) {k : Nat} (ho : OPN U k) : OPN u k := by
  obtain ⟨γ, b, M, x1, x2, x3⟩ := ho
  rw [h.hd] at x2
  exact ⟨γ, b, M, by rw [← h.go]; exact x1, h.ischb hc x2, x3⟩
theorem KP.ent {t c0 : Nat} {L : List Nat} {y : Int32} {s u U : RS} (hk : KP t s u) (h : ENT t c0 L y u U) (hc : ¬ u.a 21 c0 = 36) (h0 : cdI s ≤ (c0 : Int)) (he0 : 0 ≤ enI s) (hL : ∀ j ∈ L, enI s ≤ (j : Int)) : KP t s U := by
  obtain ⟨⟨a1, a1'⟩, a2, a3, a4, a5, a6, a7, a8, a9, a10, a11⟩ := hk
  have eb : ∀ (k : Nat) (n : Int), k ≠ 22 → ¬ (25 ≤ k ∧ k ≤ 28) → k ≠ 67 → bel k n s U = bel k n s u := fun k n h1 h2 h3 => by unfold bel; rw [h.2.2.2.1 k h1 h2 h3]
  have e3 : trI U = trI u := by unfold trI; rw [h.1 29 (by decide)]
  have e4 : caI U = caI u := by unfold caI; rw [h.1 33 (by decide)]
  have e5 : seI U = seI u := by unfold seI; rw [h.1 38 (by decide)]
  have e6 : slI U = slI u := by unfold slI; rw [h.1 42 (by decide)]
  have e9 : waI U = waI u := by unfold waI; rw [h.1 56 (by decide)]
  have e10 : peI U = peI u := by unfold peI; rw [h.1 59 (by decide)]
  have een : ((enI u).toNat : Int) = enI u := Int.toNat_of_nonneg (by have := a3.1; omega)
  have ek : ∀ k : Nat, 25 ≤ k → k ≤ 28 → bel k (enI s) u U := fun k h1 h2 j hj => h.2.2.2.2.2.2.2.1 k j h1 h2 (by have := a3.1; omega) (Or.inr (fun q => by have := hL j q; omega))
  refine ⟨⟨⟨fun j hj => (h.1 j (by omega)).trans (a1.1 j hj), fun k hk => (h.2.2.2.1 k (by omega) (by omega) (by omega)).trans (a1.2.1 k hk), by rw [h.2.2.1]; exact a1.2.2⟩, fun z => by rw [h.1 18 (by decide)]; exact a1' z⟩, ?_, ?_, ?_, ?_, ?_, ?_, fun γ b M hγ hI hM => ?_, ?_, ?_, fun k k1 k2 j hj => ?_⟩
  · unfold KC
    rw [h.cd, eb 21 _ (by decide) (by omega) (by decide), eb 23 _ (by decide) (by omega) (by decide)]
    exact ⟨a2.1, a2.2.1, fun j hj => (h.2.2.2.2.2.2.1 j (by omega)).trans (a2.2.2.1 j hj), a2.2.2.2⟩
  · exact ⟨by rw [h.2.1]; have := a3.1; omega, a3.2.1.tr (ek 25 (by omega) (by omega)) (Int.le_refl _), a3.2.2.1.tr (ek 26 (by omega) (by omega)) (Int.le_refl _), a3.2.2.2.1.tr (ek 27 (by omega) (by omega)) (Int.le_refl _), a3.2.2.2.2.tr (ek 28 (by omega) (by omega)) (Int.le_refl _)⟩
  · unfold KT; rw [e3, eb 30 _ (by decide) (by omega) (by decide), eb 31 _ (by decide) (by omega) (by decide), eb 32 _ (by decide) (by omega) (by decide)]; exact a4
  · unfold KH; unfold gv; rw [e4, eb 34 _ (by decide) (by omega) (by decide), eb 35 _ (by decide) (by omega) (by decide), eb 36 _ (by decide) (by omega) (by decide), eb 37 _ (by decide) (by omega) (by decide), e6, h.2.2.2.1 36 (by decide) (by omega) (by decide)]; exact a5
  · unfold KS; rw [e5, e6, eb 40 _ (by decide) (by omega) (by decide), eb 41 _ (by decide) (by omega) (by decide)]; exact a6
  · unfold KG; rw [h.go, eb 44 _ (by decide) (by omega) (by decide), eb 47 _ (by decide) (by omega) (by decide), h.2.2.2.1 50 (by decide) (by omega) (by decide), h.2.2.2.1 51 (by decide) (by omega) (by decide), h.2.2.2.1 46 (by decide) (by omega) (by decide)]; exact a7
  · obtain ⟨L1, c1, c2⟩ := a8 γ b M hγ hI hM
    exact ⟨L1, by rw [h.hd]; exact h.isch hc c1, by rw [h.cd]; exact c2⟩
  · unfold KW; rw [e9, eb 57 _ (by decide) (by omega) (by decide), eb 58 _ (by decide) (by omega) (by decide)]; exact a9
  · unfold KQ; rw [e10, eb 60 _ (by decide) (by omega) (by decide), eb 61 _ (by decide) (by omega) (by decide), eb 62 _ (by decide) (by omega) (by decide)]; exact a10
  · by_cases c : k = 67
    · subst c
      rw [h.2.2.2.2.1 j (by omega)]
      exact a11 67 k1 k2 j hj
    · rw [h.2.2.2.1 k (by omega) (by omega) c]
      exact a11 k k1 k2 j hj
theorem TAB.ent {t c0 : Nat} {L : List Nat} {y : Int32} {u U : RS} (ht : TAB u) (h : ENT t c0 L y u U) (hc : ¬ u.a 21 c0 = 36) (he0 : 0 ≤ enI u) (hL : ∀ j ∈ L, (j : Int) < enI u) : TAB U := by
  obtain ⟨⟨a0, b1, b2, b3, b4⟩, a1, a2, a3, a4, a5, a6, a7, a8, a9⟩ := ht
  have eg : ∀ (k i : Nat), k ≠ 22 → ¬ (25 ≤ k ∧ k ≤ 28) → k ≠ 67 → gv U k i = gv u k i := fun k i h1 h2 h3 => h.g h1 h2 h3 i
  have e3 : trI U = trI u := by unfold trI; rw [h.1 29 (by decide)]
  have e4 : caI U = caI u := by unfold caI; rw [h.1 33 (by decide)]
  have e5 : seI U = seI u := by unfold seI; rw [h.1 38 (by decide)]
  have e6 : slI U = slI u := by unfold slI; rw [h.1 42 (by decide)]
  have e7 := h.go
  have e8 : deI U = deI u := by unfold deI; rw [h.1 52 (by decide)]
  have e9 : waI U = waI u := by unfold waI; rw [h.1 56 (by decide)]
  have e10 : peI U = peI u := by unfold peI; rw [h.1 59 (by decide)]
  have een : ((enI u).toNat : Int) = enI u := Int.toNat_of_nonneg he0
  refine ⟨⟨fun γ b hγ => ?_, DJ.of a0 b1 (by omega) (fun γ b M _ h1 _ => by rw [h.hd]; exact h.isch hc h1), fun p hp => ?_, fun w w' q1 q2 => ?_, fun p w q1 q2 q3 => ?_⟩, fun j hj => ?_, fun j hj => ?_, fun j hj => ?_, fun x hx => ?_, fun j hj => ?_, fun g hg => ?_, fun k hk => ?_, fun k hk => ?_, ?_⟩
  · obtain ⟨M, l1, l2⟩ := a0 γ b (by omega)
    exact ⟨M, by rw [h.hd]; exact h.isch hc l1, fun x hx => by have := l2 x hx; rw [h.cd]; exact this⟩
  · rw [e10] at hp; rw [e3, eg 62 p (by decide) (by omega) (by decide)]; exact b2 p hp
  · rw [e9] at q2; rw [eg 57 _ (by decide) (by omega) (by decide), eg 57 _ (by decide) (by omega) (by decide)]; exact b3 w w' q1 q2
  · rw [e10] at q1; rw [e9] at q2; rw [eg 62 _ (by decide) (by omega) (by decide), eg 57 _ (by decide) (by omega) (by decide)] at q3; rw [eg 60 _ (by decide) (by omega) (by decide), eg 58 _ (by decide) (by omega) (by decide)]; exact b4 p w q1 q2 q3
  · rw [h.2.1] at hj ⊢
    by_cases c : j = (enI u).toNat
    · left; subst c; rw [h.2.2.2.2.2.2.2.2.2.1]; decide
    by_cases cl : j ∈ L
    · rcases h.2.2.2.2.2.2.2.2.2.2.2.nxt (List.mem_append_left _ cl) with r | ⟨i, i1, i2, i3⟩
      · exact Or.inl r
      · right
        refine ⟨by omega, ?_⟩
        rcases List.mem_append.mp i1 with q | q
        · have := hL i q; omega
        · rcases List.mem_cons.mp q with q | q
          · omega
          · exact absurd q List.not_mem_nil
    · have e27 : gv U 27 j = gv u 27 j := by unfold gv; rw [h.2.2.2.2.2.2.2.1 27 j (by omega) (by omega) c (Or.inr cl)]
      rw [e27]
      have := a1 j (by omega)
      omega
  · rw [e4] at hj ⊢; rw [eg 37 _ (by decide) (by omega) (by decide)]; exact a2 j hj
  · rw [e3] at hj; rw [e4, eg 30 _ (by decide) (by omega) (by decide)]; exact a3 j hj
  · rw [e5] at hx
    rw [e6, e4, eg 40 _ (by decide) (by omega) (by decide), h.2.2.2.1 41 (by decide) (by omega) (by decide)]
    have := a4 x hx
    refine ⟨this.1, this.2.1, ?_⟩
    rw [← this.2.2]
    constructor
    · rintro ⟨j, j1, j2⟩; exact ⟨j, j1, by rw [← j2, eg 36 _ (by decide) (by omega) (by decide)]⟩
    · rintro ⟨j, j1, j2⟩; exact ⟨j, j1, by rw [← j2, eg 36 _ (by decide) (by omega) (by decide)]⟩
  · rw [e4] at hj; rw [e6, eg 36 _ (by decide) (by omega) (by decide)]; exact a5 j hj
  · rw [e7] at hg; rw [e8, eg 47 _ (by decide) (by omega) (by decide)]; exact a6 g hg
  · rw [e10] at hk; rw [eg 60 _ (by decide) (by omega) (by decide), h.2.2.2.1 61 (by decide) (by omega) (by decide)]; exact a7 k hk
  · rw [e9] at hk; rw [e3, e7, eg 57 _ (by decide) (by omega) (by decide), eg 58 _ (by decide) (by omega) (by decide)]; exact a8 k hk
  · rw [h.1 75 (by decide)]; exact a9
theorem op_of {u w : RS} (h : w.i 19 = u.i 19) : op w = op u := by unfold op; rw [h]
theorem INV.ent {t c0 : Nat} {L : List Nat} {y : Int32} {u U : RS} (hI : INV u) (h : ENT t c0 L y u U) (hc : ¬ u.a 21 c0 = 36) (hL : ∀ j ∈ L, (j : Int) < enI u) (h2 : 2 * (enI u + 1) ≤ fr u) : INV U := by
  obtain ⟨x1, x2, x3, x4, x5⟩ := hI
  have e1 := op_of (h.1 19 (by decide))
  have e3 : trI U = trI u := by unfold trI; rw [h.1 29 (by decide)]
  have e4 : caI U = caI u := by unfold caI; rw [h.1 33 (by decide)]
  have e5 : seI U = seI u := by unfold seI; rw [h.1 38 (by decide)]
  have e6 : slI U = slI u := by unfold slI; rw [h.1 42 (by decide)]
  have e8 : deI U = deI u := by unfold deI; rw [h.1 52 (by decide)]
  have e9 : waI U = waI u := by unfold waI; rw [h.1 56 (by decide)]
  have e10 : peI U = peI u := by unfold peI; rw [h.1 59 (by decide)]
  have e11 : fr U = fr u := by unfold fr; rw [h.1 11 (by decide)]
  have e12 : tkI U = tkI u := by unfold tkI; rw [h.1 17 (by decide)]
  have en0 := x5.2.2.1.1
  refine ⟨x1.of (h.1 2 (by decide)) (h.1 10 (by decide)) (h.1 11 (by decide)) (h.1 12 (by decide)) (h.1 14 (by decide)) (by rw [h.2.2.1]), RB.of (h.1 _ (by decide)) (h.1 _ (by decide)) (h.2.2.2.1 _ (by decide) (by omega) (by decide)) (h.2.2.2.1 _ (by decide) (by omega) (by decide)) (h.2.2.2.1 _ (by decide) (by omega) (by decide)) x2, (h.1 15 (by decide)).trans x3, x4.ent h hc en0 hL, ?_⟩
  unfold NUM at x5 ⊢
  rw [h.cd, h.2.1, e3, e4, e5, e6, h.go, e8, e9, e10, e11, e12, e1]
  omega
theorem STG.ent {t c0 : Nat} {L : List Nat} {y : Int32} {u U : RS} (h : ENT t c0 L y u U) (hc : ¬ u.a 21 c0 = 36) : STG u U := by
  have e9 : waI U = waI u := by unfold waI; rw [h.1 56 (by decide)]
  have e10 : peI U = peI u := by unfold peI; rw [h.1 59 (by decide)]
  have ea : ∀ (k j : Nat), k ≠ 22 → ¬ (25 ≤ k ∧ k ≤ 28) → k ≠ 67 → U.a k j = u.a k j := fun k j h1 h2 h3 => by rw [h.2.2.2.1 k h1 h2 h3]
  refine ⟨by rw [h.cd]; exact Int.le_refl _, by rw [h.go]; exact Int.le_refl _, fun γ _ => ⟨ea 44 γ (by decide) (by omega) (by decide), ea 47 γ (by decide) (by omega) (by decide), fun q => by rw [ea 50 γ (by decide) (by omega) (by decide)]; exact q, fun q => by rw [ea 51 γ (by decide) (by omega) (by decide)]; exact q⟩, fun γ b M hγ hI hM => ⟨[], by rw [h.hd]; exact h.isch hc hI, fun x hx => absurd hx List.not_mem_nil⟩, ⟨by rw [e10]; exact Int.le_refl _, fun j _ => ea 60 j (by decide) (by omega) (by decide), fun j _ => ea 61 j (by decide) (by omega) (by decide), fun j _ => ea 62 j (by decide) (by omega) (by decide)⟩, e9, fun j _ => ea 57 j (by decide) (by omega) (by decide)⟩
theorem PRL.ent {t c0 : Nat} {L : List Nat} {y : Int32} {u U : RS} (hp : PRL u) (h : ENT t c0 L y u U) : PRL U := by
  have b44 : bel 44 (goI u) u U := fun j _ => by rw [h.2.2.2.1 44 (by decide) (by omega) (by decide)]
  have b46 : bel 46 (goI u) u U := fun j _ => by rw [h.2.2.2.1 46 (by decide) (by omega) (by decide)]
  refine ⟨fun γ a1 a2 a3 => ?_, fun γ a1 => hp.2 γ (a1.of h.go b44 b46)⟩
  have q1 := (ACC.of h.go b44 γ).mp a1
  have e : gv U 46 γ = gv u 46 γ := h.g (by decide) (by omega) (by decide) γ
  rw [e] at a3
  obtain ⟨c1, c2, c3⟩ := hp.1 γ q1 (by rw [← b44 γ q1.1]; exact a2) a3
  rw [e, h.go]
  exact ⟨c1, c2, by rw [b44 _ (by omega)]; exact c3⟩
end
section
/-! reading: a case's number -/
theorem p_cn75 {N : Nat} {u : RS} {x1 x3 : Int32} : ∀ (n : Nat) (L : List Nat) (σ : RS) (x4 : Int32), LX u σ → (σ = u ∨ ¬ σ.i 15 = 0) → ENCH u x4.toInt L → (∀ j ∈ L, j < 500) → L.length < n → ∃ σ', f_X12_caseNumber_75 N n σ x1 x3 x4 = (if (σ'.i 15) = 0 then (f_X12_entry N σ' x1 x3 0).bind fun p13 => (f_X12_next N p13).bind fun p15 => f_X12_caseNumber_140 N p15 else f_X12_caseNumber_140 N σ') ∧ LX u σ' ∧ (σ' = u ∨ ¬ σ'.i 15 = 0)
  | 0, L, _, _, _, _, _, _, h => by omega
  | n + 1, [], σ, x4, hl, hs, hch, _, _ => by
    show ∃ σ', b_X12_caseNumber_75 N (f_X12_caseNumber_75 N n) σ x1 x3 x4 = _ ∧ _
    unfold b_X12_caseNumber_75
    have hch : x4.toInt < 0 := hch
    rw [if_pos (Int32.lt_iff_toInt_lt.mpr (by rw [z_t0]; exact hch))]
    exact ⟨σ, rfl, hl, hs⟩
  | n + 1, j :: L, σ, x4, hl, hs, hch, h5, hn => by
    show ∃ σ', b_X12_caseNumber_75 N (f_X12_caseNumber_75 N n) σ x1 x3 x4 = _ ∧ _
    unfold b_X12_caseNumber_75
    obtain ⟨q1, q2, q3⟩ := hch
    have j5 := h5 j (List.mem_cons_self ..)
    rw [if_neg (fun z => by have := Int32.lt_iff_toInt_lt.mp z; rw [z_t0] at this; omega), if_pos (show ib x4 500 from ⟨by omega, by omega⟩), k_nat q1]
    have hn' : L.length < n := Nat.lt_of_succ_lt_succ hn
    have go : ∀ τ : RS, LX u τ → (τ = u ∨ ¬ τ.i 15 = 0) → ∃ σ', f_X12_caseNumber_75 N n τ x1 x3 (τ.a 27 j) = (if (σ'.i 15) = 0 then (f_X12_entry N σ' x1 x3 0).bind fun p13 => (f_X12_next N p13).bind fun p15 => f_X12_caseNumber_140 N p15 else f_X12_caseNumber_140 N σ') ∧ LX u σ' ∧ (σ' = u ∨ ¬ σ'.i 15 = 0) := fun τ a b => p_cn75 n L τ (τ.a 27 j) a b (by rw [a.1]; exact q3) (fun i hi => h5 i (List.mem_cons_of_mem _ hi)) hn'
    by_cases c1 : σ.a 28 j = 0
    · rw [if_pos c1]
      by_cases c2 : σ.a 25 j = x3
      · rw [if_pos c2]
        obtain ⟨S, eS, r1, r2, r3⟩ := p_fl (N := N) hl.2.2.2.1 4 (σ.i 11) (by decide)
        rw [eS]
        exact go S (hl.tr r1) (Or.inr r2)
      · rw [if_neg c2]; exact go σ hl hs
    · rw [if_neg c1]; exact go σ hl hs
theorem CASEN {N : Nat} (hN : 1000 ≤ N) {w : RS} {t c0 : Nat} {L : List Nat} {x1 : Int32} (hI : INV w) (ibx : ib x1 1000) (nx : x1.toNatClampNeg = t) (h66 : (w.a 66 t).toInt = (c0 : Int)) (hc : c0 < 3000) (hq : FQ w t L) (hch : ENCH w (gv w 22 c0) L) (hL : ∀ j ∈ L, (j : Int) < enI w) (h36 : ¬ w.a 21 c0 = 36) (h2 : 2 * (enI w + 1) ≤ fr w) : ∃ p, f_X12_caseNumber N w x1 = some p ∧ (p.1 = 0 ∧ ¬ p.2.i 15 = 0 ∧ LX w p.2 ∨ p.1 = 1 ∧ ∃ u U, LX w u ∧ INV u ∧ u.i 19 = w.i 19 ∧ fr w ≤ fr u ∧ tkI w ≤ tkI u ∧ tkI u - tkI w ≤ fr u - fr w ∧ ENT t c0 L 0 u U ∧ LX U p.2 ∧ INV U ∧ INV p.2 ∧ p.2.i 19 = U.i 19 ∧ fr U + 1 ≤ fr p.2 ∧ tkI p.2 = tkI U + 1) := by
  have st : ∃ (u : RS) (x2 : Int32), f_X12_caseNumber N w x1 = f_X12_caseNumber_23 N u x1 x2 ∧ LX w u ∧ INV u ∧ u.i 19 = w.i 19 ∧ fr w ≤ fr u ∧ tkI w ≤ tkI u ∧ tkI u - tkI w ≤ fr u - fr w := by
    unfold f_X12_caseNumber f_X12_caseNumber_15
    by_cases c : w.i 10 = 45
    · rw [if_pos c, if_neg (by decide)]
      obtain ⟨u, eu, y1, y2, y3, y4, y5, y6, y7⟩ := NX hN hI (by rw [c]; decide)
      rw [eu]
      exact ⟨u, 1, rfl, y1, y4, y3, by omega, by omega, by omega⟩
    · rw [if_neg c, if_pos rfl]
      exact ⟨w, 0, rfl, LX.rf hI.1, hI, rfl, Int.le_refl _, Int.le_refl _, by omega⟩
  obtain ⟨u, x2, e, l1, iu, u19, f1, t1, t2⟩ := st
  rw [e]
  clear e
  unfold f_X12_caseNumber_23 f_X12_caseNumber_43
  have fu := iu.1.f0
  have nn := hI.2.2.2.2.2.2.1
  by_cases c : u.i 10 = 1
  case neg =>
    rw [if_neg c]
    obtain ⟨G, eG, g1, g2, hG⟩ := p_cn (N := N) iu.1 0
    rw [eG]
    rcases hG with ⟨g3, g4⟩ | ⟨g3, g4, g5, g6⟩
    · show ∃ p, (if G.1 = 0 then some ((0 : Int32), G.2) else f_X12_caseNumber_45 N G.2 x1 x2) = some p ∧ _
      rw [if_pos g3]
      exact ⟨_, rfl, Or.inl ⟨rfl, g4, l1.tr g1⟩⟩
    · exact absurd rfl g6
  rw [if_pos c]
  obtain ⟨G, eG, g1, g2, hG⟩ := p_cn (N := N) iu.1 1
  rw [eG]
  show ∃ p, (if G.1 = 0 then some ((0 : Int32), G.2) else f_X12_caseNumber_45 N G.2 x1 x2) = some p ∧ _
  rcases hG with ⟨g3, g4⟩ | ⟨g3, g4, g5, g6⟩
  · rw [if_pos g3]
    exact ⟨_, rfl, Or.inl ⟨rfl, g4, l1.tr g1⟩⟩
  rw [if_neg (by rw [g3]; decide), g4]
  clear eG g1 g2 g3 g4
  have e45 : ∃ x3, f_X12_caseNumber_45 N u x1 x2 = f_X12_caseNumber_62 N u x1 x3 := by
    unfold f_X12_caseNumber_45
    by_cases c2 : x2 = 0
    · rw [if_pos c2]; exact ⟨_, rfl⟩
    · rw [if_neg c2]; exact ⟨_, rfl⟩
  obtain ⟨x3, e3⟩ := e45
  rw [e3]
  unfold f_X12_caseNumber_62
  have ua : u.a = w.a := l1.1
  have uen : enI u = enI w := l1.tbl.en
  have h66u : (u.a 66 t).toInt = (c0 : Int) := by rw [ua]; exact h66
  have hchu : ENCH u (gv u 22 c0) L := by
    have : gv u 22 c0 = gv w 22 c0 := by unfold gv; rw [ua]
    rw [this]
    exact hch.of (fun j _ => by unfold gv; rw [ua])
  have hLu : ∀ j ∈ L, (j : Int) < enI u := fun j hj => by rw [uen]; exact hL j hj
  have fw := hI.1.f0
  rw [if_pos ibx, nx, if_pos (show ib (u.a 66 t) 3000 from ⟨by omega, by omega⟩), k_nat h66u]
  have len : L.length ≤ 500 := nd_len 500 L hch.nd (fun j hj => by have := hL j hj; omega)
  obtain ⟨σ', es, k1, k2⟩ := p_cn75 (N := N) (u := u) (x1 := x1) (x3 := x3) N L u (u.a 22 c0) (LX.rf iu.1) (Or.inl rfl) hchu (fun j hj => by have := hL j hj; omega) (by omega)
  rw [es]
  clear es
  by_cases c15 : σ'.i 15 = 0
  case neg =>
    rw [if_neg c15]
    unfold f_X12_caseNumber_140
    rw [if_neg c15]
    exact ⟨_, rfl, Or.inl ⟨rfl, c15, l1.tr k1⟩⟩
  rw [if_pos c15]
  rcases k2 with k2 | k2
  case inr => exact absurd c15 k2
  subst k2
  have hqu : FQ σ' t L := by unfold FQ at hq ⊢; rw [ua]; exact hq
  obtain ⟨U, eU, hU⟩ := p_en (N := N) (u := σ') (L := L) x3 0 ibx nx (by omega) (by omega) h66u hc hqu hchu hLu
  rw [eU]
  have h36u : ¬ σ'.a 21 c0 = 36 := by rw [ua]; exact h36
  have hUI : INV U := iu.ent hU h36u hLu (by omega)
  obtain ⟨R, eR, z1, z2, z3, z4, z5, z6, z7⟩ := NX hN hUI (by rw [hU.1 10 (by decide), c]; decide)
  show ∃ p, ((f_X12_next N U).bind fun p15 => f_X12_caseNumber_140 N p15) = some p ∧ _
  rw [eR]
  refine ⟨(1, R), ?_, Or.inr ⟨rfl, σ', U, l1, iu, u19, f1, t1, t2, hU, z1, hUI, z4, z3, z5, z6⟩⟩
  show f_X12_caseNumber_140 N R = _
  unfold f_X12_caseNumber_140
  rw [if_pos z2]
end
section
/-! reading: switch: its typing -/
/-- the entry of the switch, and the links of its entries, may still change -/
def ZG (c0 : Nat) (L : List Nat) : Nat → Nat → Prop := fun a k => a = 22 ∧ k = c0 ∨ a = 27 ∧ k ∈ L
/-- groups laid so far: from every entry the code is as it should be -/
def TSX (L : List Nat) (c0 : Nat) (V w : RS) : Prop := ∀ (f : RS) (C : Nat → Bool), AGZ (ZG c0 L) V w f → AGC V w C → ∀ (h o v : Nat) (rs : List Rec), CX V h o v rs → YE V rs → ∃ S : Nat → Ctx → Prop, ∀ g : Gh, g.isC = C → (∀ k c, S k c → g.T k c) → ENS V w f h o v rs g → (∀ j ∈ L, FL f g v (gv w 26 j) (gv w 26 j) h o rs) ∧ ∀ k c, S k c → GOOD f g k c
theorem TSX.nil (c0 : Nat) (V w : RS) : TSX [] c0 V w := fun _ _ _ _ _ _ _ _ _ _ => ⟨fun _ _ => False, fun _ _ _ _ => ⟨fun j hj => absurd hj List.not_mem_nil, fun _ _ q => q.elim⟩⟩
theorem OPN.tblb {u w : RS} (h : TBL u w) {k : Nat} (ho : OPN w k) : OPN u k := by
  obtain ⟨γ, b, M, x1, x2, x3⟩ := ho
  rw [h.hd] at x2
  exact ⟨γ, b, M, by rw [← h.go]; exact x1, x2.of (fun y _ => ⟨by rw [h.1 21 (by omega)], by rw [h.1 22 (by omega)]⟩), x3⟩
theorem AGZ.tblb {Z : Nat → Nat → Prop} {s u w f : RS} (h : AGZ Z s w f) (tb : TBL u w) : AGZ Z s u f := by
  obtain ⟨a1, a2, a3, a4, a5, a6, a7, a8⟩ := h
  rw [tb.cd] at a1 a5
  rw [tb.en] at a2 a6
  rw [tb.tt] at a3 a7
  rw [tb.ca] at a8
  refine ⟨a1, a2, a3, by rw [← tb.2.2 3 (by omega) (by omega) (by omega) (by omega)]; exact a4, fun k k1 k2 => ?_, fun k k1 k2 => ?_, fun k k1 k2 z => ?_, fun k k1 k2 => ?_⟩
  · obtain ⟨b1, b2⟩ := a5 k k1 k2
    rw [tb.1 21 (by omega)] at b1
    refine ⟨b1, fun z => ?_⟩
    obtain ⟨b3, b4⟩ := b2 z
    rw [tb.1 23 (by omega)] at b3
    rw [tb.1 22 (by omega)] at b4
    exact ⟨b3, fun q => b4 (fun y => q (y.tblb tb))⟩
  · have := a6 k k1 k2
    rw [tb.1 26 (by omega), tb.1 27 (by omega), tb.1 28 (by omega)] at this
    exact this
  · have := a7 k k1 k2 z
    rw [tb.1 30 (by omega), tb.1 31 (by omega), tb.1 32 (by omega)] at this
    exact this
  · have := a8 k k1 k2
    rw [tb.1 35 (by omega), tb.1 36 (by omega), tb.1 37 (by omega)] at this
    exact this
theorem AGC.tblb {s u w : RS} {C : Nat → Bool} (h : AGC s w C) (tb : TBL u w) : AGC s u C := by
  intro x h1 h2
  have := h x h1 (by rw [tb.sl]; exact h2)
  rw [this]
  constructor
  · rintro ⟨j, j1, j2, j3⟩
    exact ⟨j, j1, by rw [← tb.ca]; exact j2, by rw [← tb.g (by decide)]; exact j3⟩
  · rintro ⟨j, j1, j2, j3⟩
    exact ⟨j, j1, by rw [tb.ca]; exact j2, by rw [tb.g (by decide)]; exact j3⟩
theorem TSX.tbl {L : List Nat} {c0 : Nat} {V w w' : RS} (h : TSX L c0 V w) (tb : TBL w w') (hn : TN w) (r : w.i 75 = 1 → w'.i 75 = 1) : TSX L c0 V w' := by
  intro f C hA hC h' o v rs hx hy
  obtain ⟨S, hS⟩ := h f C (hA.tblb tb) (hC.tblb tb) h' o v rs hx hy
  refine ⟨S, fun g hg hT hE => ?_⟩
  have e := hS g hg hT ⟨⟨fun k hk => hE.1.1 k (by rw [tb.cd]; exact hk), hE.1.2⟩, fun q => by rw [← tb.cd]; exact hE.2.1 (r q), hE.2.2.stg (STG.tbs tb.tbs) hn (Int.le_refl _) (Nat.le_refl _) tb.go⟩
  exact ⟨fun j hj => by rw [tb.g (by decide)]; exact e.1 j hj, e.2⟩
/-- a group more -/
theorem TSX.snoc {t c0 : Nat} {L : List Nat} {y : Int32} {V u U B v : RS} (h1 : TSX L c0 V u) (en : ENT t c0 L y u U) (tb : TBL U B) (ts : TS B v) (k2 : KP t B v) (s2 : SAME B v) (kV : KP t V u) (kB : KP t V B) (c1 : (c0 : Int) < cdI u) (c21 : ¬ u.a 21 c0 = 36) (e0 : 0 ≤ enI V) (hL : ∀ j ∈ L, (j : Int) < enI u) (nw : SNW V B) (tV : TAB V) (tu : TAB u) (tB : TAB B) (fB : fr V ≤ fr B) (f9 : fr B ≤ 900) (dB : B.i 52 = V.i 52) (hyB : ∀ rs, YE V rs → YE B rs) : TSX (L ++ [(enI u).toNat]) c0 V v := by
  intro f C hA hC h o lv rs hx hy
  have eu0 : 0 ≤ enI u := by have := kV.2.2.1.1; omega
  have ee : ((enI u).toNat : Int) = enI u := Int.toNat_of_nonneg eu0
  have cB : cdI B = cdI u := tb.cd.trans en.cd
  have enB : enI B = enI u + 1 := tb.en.trans en.2.1
  have i4 : ∀ j : Nat, j < 10 ∨ 20 ≤ j → ¬ (52 ≤ j ∧ j ≤ 55) → j ≠ 63 → j ≠ 75 → j ≠ 24 → B.i j = u.i j := fun j a b c d e => (tb.2.2 j a b c d).trans (en.1 j e)
  have trB : trI B = trI u := by unfold trI; rw [i4 29 (by omega) (by omega) (by omega) (by omega) (by omega)]
  have caB : caI B = caI u := by unfold caI; rw [i4 33 (by omega) (by omega) (by omega) (by omega) (by omega)]
  have slB : slI B = slI u := by unfold slI; rw [i4 42 (by omega) (by omega) (by omega) (by omega) (by omega)]
  have goB : goI B = goI u := tb.go.trans en.go
  have aB : ∀ k : Nat, k ≠ 22 → ¬ (25 ≤ k ∧ k ≤ 28) → k < 64 → B.a k = u.a k := fun k a b c => (tb.1 k (Or.inl c)).trans (en.2.2.2.1 k a b (by omega))
  have B22 : ∀ j : Nat, j ≠ c0 → B.a 22 j = u.a 22 j := fun j hj => by rw [tb.1 22 (by omega)]; exact en.2.2.2.2.2.2.1 j hj
  have Bk : ∀ k j : Nat, 25 ≤ k → k ≤ 28 → (j : Int) < enI u → k ≠ 27 ∨ j ∉ L → B.a k j = u.a k j := fun k j a b c d => by rw [tb.1 k (by omega)]; exact en.2.2.2.2.2.2.2.1 k j a b (by omega) d
  have opb : ∀ k : Nat, (k : Int) < cdI u → OPN v k → OPN u k := fun k hk ho => en.opn c21 ((OPN.back k2 tB.1.1 (by rw [s2.go]; exact Int.le_refl _) (by omega) ho).tblb tb)
  obtain ⟨kc, ke, kt, kh, ks⟩ : KC B v ∧ KE B v ∧ KT B v ∧ KH B v ∧ KS B v := ⟨k2.2.1, k2.2.2.1, k2.2.2.2.1, k2.2.2.2.2.1, k2.2.2.2.2.2.1⟩
  have i3 : v.i 3 = u.i 3 := (k2.1.1.1 3 (by omega)).trans (i4 3 (by omega) (by omega) (by omega) (by omega) (by omega))
  have A1 : AGZ (ZG c0 L) V u f := by
    obtain ⟨a1, a2, a3, a4, a5, a6, a7, a8⟩ := hA
    have q1 := kc.1
    have q2 := ke.1
    have q3 := kt.1
    have q4 := kh.1
    refine ⟨by omega, by omega, by omega, by rw [← i3]; exact a4, fun k k1 k2' => ?_, fun k k1 k2' => ?_, fun k k1 k2' z => ?_, fun k k1 k2' => ?_⟩
    · obtain ⟨b1, b2⟩ := a5 k k1 (by omega)
      refine ⟨b1.trans ((kc.2.1 k (by omega)).trans (by rw [aB 21 (by decide) (by omega) (by decide)])), fun z => ?_⟩
      have nz : k ≠ c0 := fun e => z (Or.inl ⟨rfl, e⟩)
      obtain ⟨b3, b4⟩ := b2 (fun q => by
        rcases q with q | q
        · exact nz q.2
        · exact absurd q.1 (by decide))
      refine ⟨b3.trans ((kc.2.2.2 k (by omega)).trans (by rw [aB 23 (by decide) (by omega) (by decide)])), fun q => ?_⟩
      exact (b4 (fun y => q (opb k k2' y))).trans ((kc.2.2.1 k (by omega)).trans (B22 k nz))
    · obtain ⟨b1, b2, b3⟩ := a6 k k1 (by omega)
      refine ⟨b1.trans ((ke.2.2.1 k (by omega)).trans (Bk 26 k (by omega) (by omega) k2' (Or.inl (by decide)))), b2.trans ((ke.2.2.2.2 k (by omega)).trans (Bk 28 k (by omega) (by omega) k2' (Or.inl (by decide)))), fun z => ?_⟩
      have nz : k ∉ L := fun q => z (Or.inr ⟨rfl, q⟩)
      refine (b3 (fun q => ?_)).trans ((ke.2.2.2.1 k (by omega)).trans (Bk 27 k (by omega) (by omega) k2' (Or.inr nz)))
      rcases q with q | q
      · exact absurd q.1 (by decide)
      · rcases List.mem_append.mp q.2 with q | q
        · exact nz q
        · rcases List.mem_cons.mp q with q | q
          · omega
          · exact absurd q List.not_mem_nil
    · obtain ⟨b1, b2, b3⟩ := a7 k k1 (by omega) (fun q => by
        rcases q with q | q
        · exact absurd q.1 (by decide)
        · exact absurd q.1 (by decide))
      exact ⟨b1.trans ((kt.2.1 k (by omega)).trans (by rw [aB 30 (by decide) (by omega) (by decide)])), b2.trans ((kt.2.2.1 k (by omega)).trans (by rw [aB 31 (by decide) (by omega) (by decide)])), b3.trans ((kt.2.2.2 k (by omega)).trans (by rw [aB 32 (by decide) (by omega) (by decide)]))⟩
    · obtain ⟨b1, b2, b3⟩ := a8 k k1 (by omega)
      refine ⟨b1.trans ((kh.2.2.1 k (by omega)).trans (by rw [aB 35 (by decide) (by omega) (by decide)])), b2.trans ((kh.2.2.2.1 k (by omega)).trans (by rw [aB 36 (by decide) (by omega) (by decide)])), fun _ => (b3 (fun q => by
        rcases q with q | q
        · exact absurd q.1 (by decide)
        · exact absurd q.1 (by decide))).trans ((kh.2.2.2.2.1 k (by omega)).trans (by rw [aB 37 (by decide) (by omega) (by decide)]))⟩
  have g36 : ∀ j : Nat, (j : Int) < caI u → gv v 36 j = gv u 36 j := fun j hj => by
    unfold gv
    rw [kh.2.2.2.1 j (by omega), aB 36 (by decide) (by omega) (by decide)]
  have C1 : AGC V u C := hC.mid (KP.rf t V) kV (by have := ks.2.1; omega) (by have := kh.1; omega) g36 (fun j j1 j2 => by
    have := (kh.2.2.2.2.2 j (by omega) j2).1; omega)
  have A2 : AG0 B v f := by
    obtain ⟨a1, a2, a3, a4, a5, a6, a7, a8⟩ := hA
    have q1 := kB.2.1.1
    have q2 := kB.2.2.1.1
    have q3 := kB.2.2.2.1.1
    have q4 := kB.2.2.2.2.1.1
    refine ⟨a1, a2, a3, a4, fun k k1 k2' => ?_, fun k k1 k2' => ?_, fun k k1 k2' => ?_, fun k k1 k2' => ?_⟩
    · obtain ⟨b1, b2⟩ := a5 k (by omega) k2'
      obtain ⟨b3, b4⟩ := b2 (fun q => by
        rcases q with q | q
        · have := q.2; omega
        · exact absurd q.1 (by decide))
      exact ⟨b1, b3, b4⟩
    · obtain ⟨b1, b2, b3⟩ := a6 k (by omega) k2'
      refine ⟨b1, b3 (fun q => ?_), b2⟩
      rcases q with q | q
      · exact absurd q.1 (by decide)
      · rcases List.mem_append.mp q.2 with q | q
        · have := hL k q; omega
        · rcases List.mem_cons.mp q with q | q
          · omega
          · exact absurd q List.not_mem_nil
    · exact a7 k (by omega) k2' (fun q => by
        rcases q with q | q
        · exact absurd q.1 (by decide)
        · exact absurd q.1 (by decide))
    · obtain ⟨b1, b2, b3⟩ := a8 k (by omega) k2'
      exact ⟨b1, b2, b3 (fun q => by
        rcases q with q | q
        · exact absurd q.1 (by decide)
        · exact absurd q.1 (by decide))⟩
  have C2 : AGC B v C := hC.mid kB k2 (Int.le_refl _) (Int.le_refl _) (fun _ _ => rfl) (fun j j1 j2 => by omega)
  have hx2 := hx.2.1
  obtain ⟨S1, z1⟩ := h1 f C A1 C1 h o lv rs hx hy
  obtain ⟨S2, z2⟩ := ts f C A2 C2 h o lv rs (hx.up h dB fB f9 (by omega)) (hyB rs hy)
  have stg : STG u v := ((STG.ent en c21).tr (STG.tbs tb.tbs)).tr (STG.kp k2 s2.go s2.wa)
  have q1 := kc.1
  refine ⟨fun k c => S1 k c ∨ S2 k c, fun g hg hT hE => ?_⟩
  obtain ⟨f2, d2⟩ := z2 g hg (fun k c q => hT k c (Or.inr q)) ⟨hE.1.nx hg hC kB k2 nw tB tV, hE.2.1, fun γ b k a1 a2 a3 => hE.2.2 γ b k a1 a2 ⟨by have := a3.1; have := kB.2.1.1; omega, a3.2⟩⟩
  obtain ⟨f1, d1⟩ := z1 g hg (fun k c q => hT k c (Or.inl q)) ⟨⟨fun k hk => hE.1.1 k (by omega), hE.1.2⟩, fun _ => by rw [← cB]; exact f2, hE.2.2.stg stg tu.1.1 (Int.le_refl _) (Nat.le_refl _) (by rw [s2.go, goB])⟩
  refine ⟨fun j hj => ?_, fun k c q => ?_⟩
  · rcases List.mem_append.mp hj with q | q
    · have := hL j q
      have e : gv v 26 j = gv u 26 j := by
        unfold gv
        rw [ke.2.2.1 j (by omega), Bk 26 j (by omega) (by omega) this (Or.inl (by decide))]
      rw [e]
      exact f1 j q
    · rcases List.mem_cons.mp q with q | q
      · have e : gv v 26 j = cdI B := by
          rw [q]
          unfold gv
          rw [ke.2.2.1 _ (by omega), tb.1 26 (by omega), en.2.2.2.2.2.2.2.2.1, cB]
          rfl
        rw [e]
        exact f2
      · exact absurd q List.not_mem_nil
  · rcases q with q | q
    · exact d1 k c q
    · exact d2 k c q
theorem KP.ppl {t : Nat} {s v W : RS} {γ0 : Nat} {Lb : List Nat} {xb : Int32} {Y : Nat → Prop} (h : KP t s v) (hpp : PPL γ0 Lb xb Y v W) (ht : TAB v) (hg : goI s ≤ γ0) (hse : seI s ≤ seI W) (h18 : W.i 18 = v.i 18) (hs : ∀ k : Nat, k ∈ Lb ∨ Y k → cdI s ≤ (k : Int)) (hf : ∀ k : Nat, 64 ≤ k → k ≤ 73 → bel k t v W) : KP t s W := by
  refine h.fin hpp.1 (hpp.chn ht) hpp.2.1 (by have := hpp.2.2.1; omega) hse (fun z => by rw [h18]; exact z) (fun k hk => ?_) hf
  have hlt : (k : Int) < cdI v := by have := h.2.1.1; omega
  obtain ⟨h1, h2, h3, h4, h6, h7, h8, h10⟩ := hpp
  refine ⟨(h7 k hlt).1, h8 k hlt (fun q => ?_), (h7 k hlt).2 (fun q => ?_)⟩
  · have := hs k (Or.inl q); omega
  · have := hs k (Or.inr q); omega
/-- a switch -/
theorem TS.groups {t : Nat} {s A V w W : RS} {xb : Int32} {γ0 : Nat} {Lb L : List Nat} (hI : INV s) (kA : KP t s A) (cA : cdI A = cdI s + 1) (A21 : A.a 21 (cdI s).toNat = 1) (A38 : A.i 38 = s.i 38) (A52 : A.i 52 = s.i 52) (fA : fr s ≤ fr A) (te : TE A V) (k1 : KP t A V) (i1 : INV V) (d1 : V.i 52 = s.i 52) (f1 : fr A + 1 ≤ fr V) (gV : goI V = goI s) (V38 : V.i 38 = s.i 38) (kV : KP t V w) (tsx : TSX L (cdI V).toNat V w) (w21 : w.a 21 (cdI V).toNat = 28) (lt : cdI V + 1 ≤ cdI w) (iw : INV w) (g0 : (γ0 : Int) = goI s) (w44 : w.a 44 γ0 = 1) (w47 : gv w 47 γ0 = deI s) (hch : ENCH w (gv w 22 (cdI V).toNat) L) (hL : ∀ j ∈ L, enI V ≤ (j : Int) ∧ (j : Int) < enI w ∧ cdI V + 1 ≤ gv w 26 j) (hpp : PPL γ0 Lb xb (fun k => k = (cdI V).toNat) w W) (sb : ∀ k ∈ Lb, cdI V + 1 ≤ (k : Int)) (cW : cdI W = cdI w) (hxb : xb.toInt = cdI W) (W23 : W.a 23 (cdI V).toNat = xb) (hw : ∀ j : Nat, (j : Int) < waI w → gv w 58 j ≤ γ0) (hr0 : w.i 75 = 1 → W.i 75 = 1) (hrb : w.a 50 γ0 = 1 → W.i 75 = 1) (hrd : (∀ j ∈ L, w.a 28 j = 0) → W.i 75 = 1) (hse : seI V ≤ seI W) (w18 : W.i 18 = w.i 18) (wf : ∀ k : Nat, 64 ≤ k → k ≤ 73 → bel k t w W) : TS s W := by
  intro f C hA hC h o lv rs hx hy
  have cs := hI.cd
  have c1' := i1.cd
  have cw' := iw.cd
  have fv1 := i1.1.f0
  have fw1 := iw.1.f0
  have le1 := k1.2.1.1
  have tw := iw.2.2.2.1
  have ek : ((cdI V).toNat : Int) = cdI V := Int.toNat_of_nonneg c1'.1
  have hx2 := hx.2.1
  have ksV : KP t s V := kA.tr k1 (Nat.le_refl _)
  have ksw : KP t s w := ksV.tr kV (Nat.le_refl _)
  have kVW : KP t V W := kV.ppl hpp tw (by omega) hse w18 (fun k hk => by
    rcases hk with q | q
    · have := sb k q; omega
    · have q : k = (cdI V).toNat := q
      omega) wf
  have gW : goI W = goI V := by have := hpp.2.2.1; omega
  have L1 : LAT noZ A V W := (LAT.rf noZ A V).kp kVW i1.tn (by omega)
  obtain ⟨A1, C1⟩ := L1.use hA hC kA k1
  have he := hpp.1
  have enW : enI W = enI w := he.en
  have en0 : 0 ≤ enI s := hI.2.2.2.2.2.2.1.1
  have ken : enI s ≤ enI V := ksV.2.2.1.1
  have nw2 := iw.2.2.2.2.2.2.1
  have cn : (cdI V).toNat ∉ Lb := fun q => by have := sb _ q; omega
  have aE : ∀ k : Nat, 24 ≤ k → k < 64 → W.a k = w.a k := fun k a b => he.1 k (Or.inr a) (Or.inl b)
  have AZ : AGZ (ZG (cdI V).toNat L) V w f := by
    have chn := hpp.chn tw
    have opf : ∀ k, OPN W k → OPN w k := fun k q => OPN.fin tw.1.1 he chn (by have := hpp.2.2.2.1; have := hpp.2.2.1; omega) q
    obtain ⟨a1, a2, a3, a4, a5, a6, a7, a8⟩ := hA
    have q1 := ksV.2.1.1
    have q3 := ksV.2.2.2.1.1
    have q4 := ksV.2.2.2.2.1.1
    have e3 := he.tt
    have e4 := he.ca
    refine ⟨by omega, by omega, by omega, by rw [← he.i3]; exact a4, fun k k1 k2' => ?_, fun k k1 k2' => ?_, fun k k1 k2' _ => ?_, fun k k1 k2' => ?_⟩
    · obtain ⟨b1, b2, b3⟩ := a5 k (by omega) (by omega)
      have h7 := hpp.2.2.2.2.2.1 k k2'
      refine ⟨b1.trans h7.1, fun z => ⟨b2.trans (h7.2 (fun e => z (Or.inl ⟨rfl, e⟩))), fun q => ?_⟩⟩
      exact (b3 (fun y => q (opf k y))).trans (hpp.2.2.2.2.2.2.1 k k2' (fun y => q ⟨γ0, true, Lb, by have := hpp.2.2.2.1; omega, hpp.2.2.2.2.1, y⟩))
    · obtain ⟨b1, b2, b3⟩ := a6 k (by omega) (by omega)
      rw [aE 26 (by omega) (by omega)] at b1
      rw [aE 27 (by omega) (by omega)] at b2
      rw [aE 28 (by omega) (by omega)] at b3
      exact ⟨b1, b3, fun _ => b2⟩
    · obtain ⟨b1, b2, b3⟩ := a7 k (by omega) (by omega)
      rw [aE 30 (by omega) (by omega)] at b1
      rw [aE 31 (by omega) (by omega)] at b2
      rw [aE 32 (by omega) (by omega)] at b3
      exact ⟨b1, b2, b3⟩
    · obtain ⟨b1, b2, b3⟩ := a8 k (by omega) (by omega)
      rw [aE 35 (by omega) (by omega)] at b1
      rw [aE 36 (by omega) (by omega)] at b2
      rw [aE 37 (by omega) (by omega)] at b3
      exact ⟨b1, b2, fun _ => b3⟩
  have CZ : AGC V w C := hC.mid ksV kV (by rw [he.sl]; exact Int.le_refl _) (by rw [he.ca]; exact Int.le_refl _) (fun j _ => he.g (by omega) (by omega) j) (fun j j1 j2 => by rw [he.ca] at j2; omega)
  have kg := ksV.2.2.2.2.2.2.1
  obtain ⟨S1, z1⟩ := tsx f C AZ CZ h o lv rs (hx.up h d1 (by omega) (by omega) (by omega)) (hy.of gV kg.2.1 kg.2.2.1)
  have c1 := te f C A1 C1 h o lv rs (hx.up h A52 fA (by omega) (by omega))
  have e21 : W.a 21 (cdI V).toNat = 28 := by rw [(hpp.2.2.2.2.2.1 _ (by omega)).1]; exact w21
  have e22 : W.a 22 (cdI V).toNat = w.a 22 (cdI V).toNat := hpp.2.2.2.2.2.2.1 _ (by omega) cn
  obtain ⟨p1, p2, p3, p4⟩ := hA.cell (k := (cdI V).toNat) (o := 28) (x := w.a 22 (cdI V).toNat) (by omega) (by omega) e21 e22 (by decide)
  have p3 : gv f 23 (cdI V).toNat = cdI W := by
    rw [p3]; unfold gv; rw [W23]; exact hxb
  have hchf : ENCH f (gv f 22 (cdI V).toNat) L := by
    have e : gv f 22 (cdI V).toNat = gv w 22 (cdI V).toNat := p2
    rw [e]
    refine hch.of (fun j hj => ?_)
    have := hL j hj
    unfold gv
    rw [(hA.2.2.2.2.2.1 j (by omega) (by omega)).2.1, aE 27 (by omega) (by omega)]
  have g26 : ∀ j ∈ L, gv f 26 j = gv w 26 j := fun j hj => by
    have := hL j hj
    unfold gv
    rw [(hA.2.2.2.2.2.1 j (by omega) (by omega)).1, aE 26 (by omega) (by omega)]
  have len : L.length ≤ 500 := nd_len 500 L hch.nd (fun j hj => by have := hL j hj; omega)
  have enf := hA.2.1
  have xlt : gv f 22 (cdI V).toNat < enI f := by
    cases L with
    | nil => have q : gv f 22 (cdI V).toNat < 0 := hchf; omega
    | cons j L => have q := hchf.1; have := hL j (List.mem_cons_self ..); omega
  have d47 : (gv w 47 γ0).toNat = rs.length := by have := hx.1; omega
  have env : ∀ g : Gh, ENS s W f h o lv rs g → ENS V w f h o lv rs g := fun g hE => ⟨hE.1.mid ksV V38 (by omega), fun q => by rw [← cW]; exact hE.2.1 (hr0 q), hE.2.2.lab hpp tw hA (by omega) d47 hw (by rw [w44]; decide) (by omega) (fun q => by rw [hxb]; exact hE.2.1 (hrb q))⟩
  have c28 : COD f C (cdI V) (h + 1) o lv rs (ENS s W f h o lv rs) := by
    refine ⟨fun k c => S1 k c ∨ (k = (cdI V).toNat ∧ c = (h + 1, o, lv, false, rs)), fun g hg hT hE => ?_⟩
    obtain ⟨fl, gd⟩ := z1 g hg (fun k c q => hT k c (Or.inl q)) (env g hE)
    refine ⟨⟨by omega, by omega, fun _ => ⟨(h + 1, o, lv, false, rs), hT _ _ (Or.inr ⟨rfl, rfl⟩), rfl, Nat.le_refl _, rfl, rfl, Or.inr ⟨Nat.le_refl _, Int.le_refl _⟩⟩⟩, fun k c q => ?_⟩
    rcases q with q | ⟨q1, q2⟩
    · exact gd k c q
    subst q1
    subst q2
    have hEn : ∀ j : Nat, entryIn f j 500 (gv f 22 (cdI V).toNat) → FL f g lv (((cdI V).toNat : Int) + 1) (gv f 26 j) h o rs := fun j hj => by
      have jL := hchf.inn hj
      rw [g26 j jL]
      exact (fl j jL).mono (Nat.le_refl _) (by have := (hL j jL).2.2; omega)
    have hEy : ¬ (∃ j : Nat, entryIn f j 500 (gv f 22 (cdI V).toNat) ∧ ¬ gv f 28 j = 0) → FL f g lv (((cdI V).toNat : Int) + 1) (gv f 23 (cdI V).toNat) h o rs := fun nE => by
      have all : ∀ j ∈ L, w.a 28 j = 0 := fun j hj => by
        by_cases q : gv f 28 j = 0
        · have := hL j hj
          have e : f.a 28 j = w.a 28 j := by rw [(hA.2.2.2.2.2.1 j (by omega) (by omega)).2.2, aE 28 (by omega) (by omega)]
          unfold gv at q
          rw [e] at q
          exact Int32.toInt_inj.mp (by rw [z_t0]; exact q)
        · exact absurd ⟨j, hchf.mem hj len, q⟩ nE
      rw [p3]
      exact (hE.2.1 (hrd all)).mono (Nat.le_refl _) (by omega)
    exact (hx.up (s1 := V) (h + 1) d1 (by omega) (by omega) (by omega)).good (fun q => by cases q) (okJ_28 (c := (h + 1, o, lv, false, rs)) p1 ⟨by show 1 ≤ h + 1; omega, xlt, hEn, hEy⟩) (hE.1.1 _ (by omega))
  have rest : COD f C (cdI s + 1) h o lv rs (ENS s W f h o lv rs) := by
    rw [← cA]
    exact COD.seq c1.cod c28 (fun g _ hE => hE) (fun g _ hE hF => ⟨hE.1.mid kA A38 (by omega), hF⟩)
  refine COD.step hA hx cs.1 (by omega) ?_ (fun g _ hE => hE.1.1) rest
  rw [(hpp.2.2.2.2.2.1 _ (by omega)).1, kV.2.1.2.1 _ (by omega), k1.2.1.2.1 _ (by omega)]
  exact A21
end
