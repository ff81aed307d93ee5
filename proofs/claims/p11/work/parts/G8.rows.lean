/-! reading: for over rows: typing -/
/-- values one behind the other -/
def TEN (n : Nat) (s u : RS) : Prop := ∀ (f : RS) (C : Nat → Bool), AG0 s u f → AGC s u C → ∀ (h o v : Nat) (rs : List Rec), CX s h o v rs → COD f C (cdI s) h o v rs (fun g => ENB s u f g v rs ∧ FL f g v (cdI u) (cdI u) (h + n) o rs)
theorem TEN.one {s u : RS} (h : TE s u) : TEN 1 s u := fun f C hA hC h9 o v rs hx => (h f C hA hC h9 o v rs hx).cod
theorem TEN.snoc {t n : Nat} {s u u2 w : RS} (h1 : TEN n s u) (k1 : KP t s u) (tn : TN u) (k2 : KP t u u2) (h3 : TE u2 w) (k3 : KP t u2 w) (tn3 : TN w) (c2 : cdI u2 = cdI u) (hg : goI w = goI u) (e38 : u2.i 38 = s.i 38) (d2 : u2.i 52 = s.i 52) (f2 : fr s + n ≤ fr u2) (f9 : fr u2 ≤ 900) : TEN (n + 1) s w := by
  intro f C hA hC h o v rs hx
  obtain ⟨A1, C1⟩ := AG.mid hA hC (KP.rf t s) k1 (k2.tr k3 (Nat.le_refl _)) tn (by omega)
  obtain ⟨A2, C2⟩ := AG.mid hA hC (k1.tr k2 (Nat.le_refl _)) k3 (KP.rf t w) tn3 (Int.le_refl _)
  have hx2 := hx.2.1
  have q1 := h1 f C A1 C1 h o v rs hx
  have q2 := (h3 f C A2 C2 (h + n) o v rs (hx.up (h + n) d2 (by omega) (by omega) (by omega))).cod
  have le3 := k3.2.1.1
  refine COD.seq q1 q2 (fun g _ hE => ⟨hE.1.mid (k1.tr k2 (Nat.le_refl _)) e38 (Int.le_refl _), ?_⟩) (fun g _ hE hF => ⟨hE.1.mid (KP.rf t s) rfl (by omega), by rw [c2] at hF; exact hF⟩)
  have e : h + n + 1 = h + (n + 1) := by omega
  rw [e]
  exact hE.2
theorem TS.rows {t n : Nat} {s A v1 Q B2 v2 W : RS} {xn xs xc xc' xb : Int32} {γ0 : Nat} {Lc Lb : List Nat} (hI : INV s) (kA : KP t s A) (cA : cdI A = cdI s + 1) (A21 : A.a 21 (cdI s).toNat = 1) (A38 : A.i 38 = s.i 38) (A52 : A.i 52 = s.i 52) (fA : fr s ≤ fr A) (fA9 : fr A ≤ fr v1) (n1 : 1 ≤ n) (te : TEN n A v1) (k1 : KP t A v1) (i1 : INV v1) (d1 : v1.i 52 = s.i 52) (f1 : fr s + 2 * n ≤ fr v1) (gv1 : goI v1 = goI s)
  (kQ : KP t v1 Q) (cQ : cdI Q = cdI v1 + 1) (snQ : SNW s Q) (tQ : TAB Q) (gQ : goI Q = goI s) (QB : KP t Q B2) (B38 : B2.i 38 = Q.i 38) (cB : cdI B2 = cdI v1 + 2) (B21a : B2.a 21 (cdI v1).toNat = 23) (B22a : B2.a 22 (cdI v1).toNat = xn) (hxn : xn.toInt = n) (B21b : B2.a 21 (cdI v1 + 1).toNat = 24) (B23b : B2.a 23 (cdI v1 + 1).toNat = xs) (hxs : xs.toInt = slI v1) (slB : slI v1 < slI B2) (caB : caI B2 = caI v1) (dB : deI B2 = deI s + 1) (d250 : deI s + 1 ≤ 250) (fB : fr v1 + 1 ≤ fr B2) (g0 : (γ0 : Int) = goI s) (gB : goI B2 = goI s + 1) (B44 : B2.a 44 γ0 = 0) (B47 : gv B2 47 γ0 = deI s + 1) (bB : ∀ b : Bool, hd B2 b γ0 = -1)
  (ts : TS B2 v2) (k2 : KP t B2 v2) (i2 : INV v2) (s2 : SAME B2 v2) (f2 : fr B2 ≤ fr v2) (hpp : PPR γ0 Lc Lb xc xb (fun k => k = (cdI v1 + 1).toNat) v2 W) (tW : TN W) (cW : cdI W = cdI v2 + 2) (hxc : xc.toInt = cdI v1 + 1) (hxb : xb.toInt = cdI v2 + 1) (W1 : W.a 22 (cdI v1 + 1).toNat = xb) (W2 : W.a 21 (cdI v2).toNat = 15) (W3 : W.a 22 (cdI v2).toNat = xc') (hxc' : xc'.toInt = cdI v1 + 1) (W4 : W.a 21 (cdI v2 + 1).toNat = 25) (hw : ∀ w : Nat, (w : Int) < waI v2 → gv v2 58 w ≤ γ0) (W75 : W.i 75 = 1) (hse : seI Q ≤ seI W) (w18 : W.i 18 = v2.i 18) (wf : ∀ k : Nat, 64 ≤ k → k ≤ 73 → bel k t v2 W) : TS s W := by
  intro f C hA hC h o lv rs hx hy
  have cs := hI.cd
  have c1' := i1.cd
  have c2' := i2.cd
  have fv1 := i1.1.f0
  have fv2 := i2.1.f0
  have le1 := k1.2.1.1
  have le2 := k2.2.1.1
  have leQ := kQ.2.1.1
  have ekn : ((cdI v1).toNat : Int) = cdI v1 := Int.toNat_of_nonneg c1'.1
  have ekL : ((cdI v1 + 1).toNat : Int) = cdI v1 + 1 := Int.toNat_of_nonneg (by omega)
  have ek2 : ((cdI v2).toNat : Int) = cdI v2 := Int.toNat_of_nonneg c2'.1
  have ekp : ((cdI v2 + 1).toNat : Int) = cdI v2 + 1 := Int.toNat_of_nonneg (by omega)
  have t2 := i2.2.2.2.1
  have kB1 : KP t v1 B2 := kQ.tr QB (Nat.le_refl _)
  have seQ1 := kQ.2.2.2.2.2.1.1
  have ns : ∀ k : Nat, k ∈ Lc ∨ k ∈ Lb → cdI B2 ≤ (k : Int) := fun k hk => by
    rcases hk with hk | hk
    · exact (new_sites k2 bB (by omega) hpp.2.2.2.2.1 k hk).1
    · exact (new_sites k2 bB (by omega) hpp.2.2.2.2.2.1 k hk).1
  have kv1W : KP t v1 W := (kB1.tr k2 (Nat.le_refl _)).ppr hpp t2 (by omega) (by omega) w18 (fun k hk => by
    rcases hk with q | q | q
    · have := ns k (Or.inl q); omega
    · have := ns k (Or.inr q); omega
    · omega) wf
  have ksv1 : KP t s v1 := kA.tr k1 (Nat.le_refl _)
  have ksB : KP t s B2 := ksv1.tr kB1 (Nat.le_refl _)
  have ksQ : KP t s Q := ksv1.tr kQ (Nat.le_refl _)
  have ksW : KP t s W := ksv1.tr kv1W (Nat.le_refl _)
  have gW : goI W = goI v1 := by have := hpp.2.2.1; omega
  have L1 : LAT noZ A v1 W := (LAT.rf noZ A v1).kp kv1W i1.tn (by omega)
  have L2 : LAT noZ B2 v2 W := hpp.lat t2 (LAT.rf noZ B2 v2) (fun k h1 h2 e => by
    have e : k = (cdI v1 + 1).toNat := e
    omega)
  obtain ⟨A1, C1⟩ := L1.use hA hC kA k1
  obtain ⟨A2, C2⟩ := L2.use hA hC ksB k2
  obtain ⟨x1, x2, x3, x4, x5, x6, x7, x8⟩ := id hx
  have t6 := hI.2.2.2.1.2.2.2.2.2.2.1
  have hd0 : ∀ γ : Nat, (γ : Int) < goI s → (gv s 47 γ).toNat ≤ rs.length := fun γ hγ => by have := t6 γ hγ; omega
  have kg := ksB.2.2.2.2.2.2.1
  have kgW := ksW.2.2.2.2.2.2.1
  have hdW : ∀ γ : Nat, (γ : Int) < goI W → (gv W 47 γ).toNat ≤ rs.length := fun γ hγ => by
    have e : gv W 47 γ = gv s 47 γ := by unfold gv; rw [kgW.2.2.1 γ (by omega)]
    rw [e]; exact hd0 γ (by omega)
  obtain ⟨r, hr⟩ : ∃ r : Rec, r = (2, 0, n, h, o, lv, false, false) := ⟨_, rfl⟩
  have rk : r.k = 2 := by rw [hr]; rfl
  have ro : r.o = o := by rw [hr]; rfl
  have rh : r.h = h := by rw [hr]; rfl
  have rp : r.p = n := by rw [hr]; rfl
  have wvr : wv (r :: rs) = n + wv rs := by
    show (if r.k = 2 then r.p else 0) + wv rs = n + wv rs
    rw [if_pos rk, rp]
  have cxB : ∀ lv' : Nat, lv' ≤ lv + 1 → CX B2 h o lv' (r :: rs) := fun lv' hl => ⟨by show ((rs.length + 1 : Nat) : Int) = deI B2; omega, by omega, by omega, by omega, by rw [wvr]; omega, ⟨Or.inr ro.symm, by rw [ro]; exact x6⟩, by omega, by omega⟩
  have y1 : YE s (r :: rs) := hy.rec rfl (bel.rf _ _ _) (bel.rf _ _ _) hd0
  have yB : YE B2 (r :: rs) := y1.push gB g0 kg.2.1 kg.2.2.1 (by rw [B44]; decide)
  have c2 := ts f C A2 C2 h o (lv + 1) (r :: rs) (cxB _ (Nat.le_refl _)) yB
  have w21 : ∀ k : Nat, (k : Int) < cdI B2 → W.a 21 k = B2.a 21 k := fun k hk => by rw [(hpp.2.2.2.2.2.2.1 k (by omega)).1, k2.2.1.2.1 k hk]
  have w22 : W.a 22 (cdI v1).toNat = B2.a 22 (cdI v1).toNat := by
    rw [hpp.2.2.2.2.2.2.2.1 _ (by omega) (fun q => by have := ns _ (Or.inl q); omega) (fun q => by have := ns _ (Or.inr q); omega) (fun q => by have q : (cdI v1).toNat = (cdI v1 + 1).toNat := q; omega), k2.2.1.2.2.1 _ (by omega)]
  have w23 : W.a 23 (cdI v1 + 1).toNat = xs := by rw [(hpp.2.2.2.2.2.2.1 _ (by omega)).2, k2.2.1.2.2.2 _ (by omega)]; exact B23b
  obtain ⟨p1, p2, p3, p4⟩ := hA.cell (k := (cdI v1).toNat) (o := 23) (x := xn) (by omega) (by omega) (by rw [w21 _ (by omega)]; exact B21a) (by rw [w22]; exact B22a) (by decide)
  obtain ⟨q1, q2, q3, q4⟩ := hA.cell (k := (cdI v1 + 1).toNat) (o := 24) (x := xb) (by omega) (by omega) (by rw [w21 _ (by omega)]; exact B21b) W1 (by decide)
  obtain ⟨r1, r2, r3, r4⟩ := hA.cell (k := (cdI v2).toNat) (o := 15) (x := xc') (by omega) (by omega) W2 W3 (by decide)
  obtain ⟨u1', u2', u3', u4'⟩ := hA.cell (k := (cdI v2 + 1).toNat) (o := 25) (by omega) (by omega) W4 rfl (by decide)
  have d47 : (gv v2 47 γ0).toNat = (r :: rs).length := by
    have kg2 := k2.2.2.2.2.2.2.1
    have e : gv v2 47 γ0 = gv B2 47 γ0 := by unfold gv; rw [kg2.2.2.1 γ0 (by omega)]
    show (gv v2 47 γ0).toNat = rs.length + 1
    omega
  have rok : ∀ (g : Gh) (k lv' : Nat), lv ≤ lv' → recsOK f g k lv rs → recsOK f g k lv' (r :: rs) := fun g k lv' hl hk => ⟨⟨by rw [rh]; omega, by rw [ro]; omega, Or.inr (Or.inl rk)⟩, hk.mono (Nat.le_refl _) hl⟩
  have kQW : KP t Q W := (QB.tr k2 (Nat.le_refl _)).ppr hpp t2 (by omega) hse w18 (fun k hk => by
    rcases hk with q | q | q
    · have := ns k (Or.inl q); omega
    · have := ns k (Or.inr q); omega
    · have q : k = (cdI v1 + 1).toNat := q
      omega) wf
  have nsl := i1.2.2.2.2.2.2.2.2.2.2.1
  have nse := i1.2.2.2.2.2.2.2.2.2.1
  have ksl := ksv1.2.2.2.2.2.1.2.1
  have slk := k2.2.2.2.2.2.1.2.1
  have slW : slI W = slI v2 := hpp.1.sl
  have isC : C xs.toInt.toNat = false := by
    rw [hxs]
    have es : ((slI v1).toNat : Int) = slI v1 := Int.toNat_of_nonneg (by omega)
    have := hC (slI v1).toNat (by omega) (by omega)
    cases hq : C (slI v1).toNat with
    | false => rfl
    | true =>
      obtain ⟨j, j1, j2, j3⟩ := this.mp hq
      by_cases cj : (j : Int) < caI v1
      · have e36 : gv W 36 j = gv v1 36 j := by unfold gv; rw [kv1W.2.2.2.2.1.2.2.2.1 j cj]
        have := (i1.2.2.2.1.2.2.2.2.2.1 j cj).2
        omega
      · have e36 : gv W 36 j = gv v2 36 j := by unfold gv; rw [hpp.1.1 36 (by omega) (by omega)]
        have ecW : caI W = caI v2 := by unfold caI; rw [hpp.1.2.2 33 (by omega) (by omega) (by omega) (by omega) (by omega) (by omega)]
        have := (k2.2.2.2.2.1.2.2.2.2.2 j (by omega) (by omega)).1
        omega
  have env : ∀ g : Gh, g.isC = C → ENS s W f h o lv rs g → FL f g lv (cdI v1 + 1) (cdI v1 + 1) h o (r :: rs) → FL f g lv (cdI v2 + 1) (cdI v2 + 1) h o (r :: rs) → (v2.i 75 = 1 → FL f g (lv + 1) (cdI v2) (cdI v2) h o (r :: rs)) → ENS B2 v2 f h o (lv + 1) (r :: rs) g := fun g hg hE hL hX hx' => by
    refine ⟨⟨fun k hk => rok g k (lv + 1) (by omega) (hE.1.1 k (by omega)), ((hE.1.nx hg hC ksQ kQW snQ tQ hI.2.2.2.1).mid QB B38 (by omega) : ENB B2 v2 f g lv rs).2⟩, hx', ?_⟩
    have e1 : EJ s W f g h o lv (r :: rs) := hE.2.2.rec (STG.rf W) tW (Int.le_refl _) rfl hdW (Or.inr rk) ro
    exact EJ.loop (lc := lv) e1 hpp t2 hA (by omega) (by omega) (by omega) d47 hw (fun _ => by rw [hxc]; exact hL) (fun _ => by rw [hxb]; exact hX)
  have bodyJ : COD f C (cdI B2) h o (lv + 1) (r :: rs) (fun g => ENS s W f h o lv rs g ∧ FL f g lv (cdI v1 + 1) (cdI v1 + 1) h o (r :: rs) ∧ FL f g lv (cdI v2 + 1) (cdI v2 + 1) h o (r :: rs)) := by
    by_cases cr : v2.i 75 = 1
    · have cJ : COD f C (cdI v2).toNat h o (lv + 1) (r :: rs) (fun g => ENS s W f h o lv rs g ∧ FL f g lv (cdI v1 + 1) (cdI v1 + 1) h o (r :: rs) ∧ FL f g lv (cdI v2 + 1) (cdI v2 + 1) h o (r :: rs)) := by
        refine COD.ins (cxB (lv + 1) (Nat.le_refl _)) r4 (fun g _ hE => ⟨?_, rok g _ (lv + 1) (by omega) (hE.1.1.1 _ (by omega))⟩)
        have hF2 : FL f g (lv + 1) (((cdI v2).toNat : Int) + 1) (gv f 22 (cdI v2).toNat) h o (r :: rs) := by
          rw [r2, hxc']
          exact hE.2.1.to (Or.inl (by omega))
        exact okJ_15 (c := (h, o, lv + 1, false, r :: rs)) r1 hF2
      exact COD.seq c2 cJ (fun g _ hE => hE) (fun g hg hE hF => env g hg hE.1 hE.2.1 hE.2.2 (fun _ => by rw [ek2] at hF; exact hF))
    · exact c2.imp (fun g hg hE => env g hg hE.1 hE.2.1 hE.2.2 (fun q => absurd q cr))
  have pop : COD f C (cdI v2 + 1).toNat h o lv (r :: rs) (ENS s W f h o lv rs) := by
    refine COD.ins (cxB lv (by omega)) u4' (fun g _ hE => ⟨?_, rok g _ lv (Nat.le_refl _) (hE.1.1 _ (by omega))⟩)
    have hF2 : FL f g lv (((cdI v2 + 1).toNat : Int) + 1) (((cdI v2 + 1).toNat : Int) + 1) h o rs := by
      have := hE.2.1 W75
      rw [cW] at this
      have e : (((cdI v2 + 1).toNat : Int) + 1) = cdI v2 + 2 := by omega
      rw [e]; exact this
    exact okJ_25 (c := (h, o, lv, false, r :: rs)) u1' ⟨r, rs, rfl, rk, hF2⟩
  have head : CODS f C (cdI v1 + 1).toNat h o lv (r :: rs) (fun g => (ENS s W f h o lv rs g ∧ FL f g lv (cdI v2 + 1) (cdI v2 + 1) h o (r :: rs)) ∧ FL f g (lv + 1) (cdI B2) (cdI B2) h o (r :: rs)) := by
    refine CODS.ins (cxB lv (by omega)) q4 (fun g hg hE => ⟨?_, rok g _ lv (Nat.le_refl _) (hE.1.1.1.1 _ (by omega))⟩)
    have ey : gv f 23 (cdI v1 + 1).toNat = slI v1 := by rw [q3]; unfold gv; rw [w23]; exact hxs
    have hF1 : FL f g lv (((cdI v1 + 1).toNat : Int) + 1) (gv f 22 (cdI v1 + 1).toNat) h o (r :: rs) := by
      rw [q2, hxb]
      exact hE.1.2.mono (Nat.le_refl _) (by omega)
    have hF2 : FS f g (((cdI v1 + 1).toNat : Int) + 1) h o (r :: rs) := by
      have e : (((cdI v1 + 1).toNat : Int) + 1) = cdI B2 := by omega
      rw [e]; exact hE.2.fs
    refine okJ_24 (c := (h, o, lv, false, r :: rs)) q1 ⟨by rw [ey]; exact ⟨by omega, by omega⟩, ?_, hF1, hF2, r, rs, rfl, rk⟩
    rw [ey, hg, ← hxs]; exact isC
  have lp := head.loop bodyJ (E := fun g => ENS s W f h o lv rs g ∧ FL f g lv (cdI v2 + 1) (cdI v2 + 1) h o (r :: rs)) (fun g _ hE hF => ⟨hE.1, by rw [ekL] at hF; exact hF, hE.2⟩) (fun g _ hE _ hF => ⟨hE, hF⟩)
  have cl : COD f C (cdI v1 + 1).toNat h o lv (r :: rs) (ENS s W f h o lv rs) := COD.seq lp.cod pop (fun g _ hE => hE) (fun g _ hE hF => ⟨hE, by rw [ekp] at hF; exact hF⟩)
  have row : COD f C (cdI v1).toNat (h + n) o lv rs (ENS s W f h o lv rs) := by
    have c23 : COD f C (cdI v1).toNat (h + n) o lv rs (fun g => ENS s W f h o lv rs g ∧ FL f g lv (cdI v1 + 1) (cdI v1 + 1) h o (r :: rs)) := by
      refine COD.ins (hx.upv (h + n) lv d1 (by omega) (by omega) (by omega) (by omega)) p4 (fun g _ hE => ⟨?_, hE.1.1.1 _ (by omega)⟩)
      have e22 : gv f 22 (cdI v1).toNat = (n : Int) := p2.trans hxn
      have et : (gv f 22 (cdI v1).toNat).toNat = n := by rw [e22]; rfl
      have eh : h + n - n = h := by omega
      refine okJ_23 (c := (h + n, o, lv, false, rs)) p1 ⟨by rw [e22]; omega, by rw [e22]; show (n : Int) ≤ ((h + n : Nat) : Int); omega, by rw [e22]; show (wv rs : Int) + n ≤ 450; omega, ?_⟩
      show FL f g lv (((cdI v1).toNat : Int) + 1) (((cdI v1).toNat : Int) + 1) (h + n - (gv f 22 (cdI v1).toNat).toNat) o ((2, 0, (gv f 22 (cdI v1).toNat).toNat, h + n - (gv f 22 (cdI v1).toNat).toNat, o, lv, false, false) :: rs)
      rw [et, eh, ekn, ← hr]
      exact hE.2
    exact COD.seq c23 cl (fun g _ hE => hE) (fun g _ hE hF => ⟨hE, by rw [ekL] at hF; exact hF⟩)
  have items := te f C A1 C1 h o lv rs (hx.up h A52 (by omega) (by omega) (by omega))
  have rest : COD f C (cdI s + 1) h o lv rs (ENS s W f h o lv rs) := by
    rw [← cA]
    exact COD.seq items row (fun g _ hE => hE) (fun g _ hE hF => ⟨hE.1.mid kA A38 (by omega), by rw [ekn] at hF; exact hF⟩)
  have hst : W.a 21 (cdI s).toNat = 1 := by
    rw [w21 _ (by omega), kB1.2.1.2.1 _ (by omega), k1.2.1.2.1 _ (by omega)]
    exact A21
  exact COD.step hA hx cs.1 (by omega) hst (fun g _ hE => hE.1.1) rest
