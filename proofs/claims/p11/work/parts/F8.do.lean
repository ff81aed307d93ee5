/-! reading: do: typing -/
theorem CODS.pn {s f : RS} {C : Nat → Bool} {k h o v : Nat} {rs : List Rec} {E : Gh → Prop} (hc : CX s h o v rs) (hc2 : CX s (h + 1) o v rs) (hk : (k : Int) + 1 < cdI f) (h21 : gv f 21 k = 2) (h22 : gv f 22 k = 1) (j21 : gv f 21 (k + 1) = 14) (hE : ∀ g : Gh, g.isC = C → E g → recsOK f g k v rs ∧ recsOK f g (k + 1) v rs ∧ FL f g v ((k : Int) + 2) (gv f 22 (k + 1)) h o rs) : CODS f C k h o v rs E := by
  refine ⟨fun k' c => (k' = k ∧ c = (h, o, v, false, rs)) ∨ (k' = k + 1 ∧ c = (h + 1, o, v, true, rs)), ⟨by omega, by omega, (h, o, v, false, rs), Or.inl ⟨Int.toNat_natCast k, rfl⟩, rfl, Nat.le_refl _, rfl, rfl, Nat.le_refl _⟩, fun g h1 h2 h3 k' c q => ?_⟩
  obtain ⟨p1, p2, p3⟩ := hE g h1 h3
  rcases q with ⟨rfl, rfl⟩ | ⟨rfl, rfl⟩
  · refine hc.good (fun q => by cases q) (okJ_2 (c := (h, o, v, false, rs)) h21 ?_) p1
    exact ⟨by omega, fun _ => ⟨(h + 1, o, v, true, rs), h2 _ _ (Or.inr ⟨rfl, rfl⟩), rfl, Nat.le_refl _, fun _ => h22, rfl, Nat.le_refl _⟩⟩
  · have e : (((k + 1 : Nat) : Int) + 1) = (k : Int) + 2 := by omega
    refine hc2.good (fun _ => by omega) (okJ_14 (c := (h + 1, o, v, true, rs)) j21 ⟨by show 1 ≤ h + 1; omega, ?_, (fun q => (by cases q))⟩) p2
    show FL f g v (((k + 1 : Nat) : Int) + 1) (gv f 22 (k + 1)) h o rs
    rw [e]
    exact p3
theorem EJ.doo {s B2 v2 W f : RS} {g : Gh} {h o lv : Nat} {rs : List Rec} {γ0 : Nat} {xc xb : Int} (hE : EJ s W f g h o lv rs) (stg : STG v2 W) (gW : goI W = γ0) (gV : goI v2 = (γ0 : Int) + 1) (ht : TAB v2) (hsite : ∀ (b : Bool) (k : Nat), SITE s v2 γ0 b k → gv f 22 k = if b = true then xb else xc) (hs : cdI s ≤ cdI B2) (hd : (gv v2 47 γ0).toNat = rs.length) (hw : ∀ w : Nat, (w : Int) < waI v2 → gv v2 58 w ≤ γ0) (hxc : cdI v2 ≤ xc) (hc : v2.a 51 γ0 = 1 → FL f g (lv + 1) xc xc h o rs) (hb : v2.a 50 γ0 = 1 → FL f g lv xb xb h o rs) : EJ B2 v2 f g h o (lv + 1) rs := by
  intro γ b k a1 a2 a3
  by_cases e : γ = γ0
  · subst e
    have hs' : SITE s v2 γ b k := ⟨by have := a3.1; omega, a3.2⟩
    have ef := hsite b k hs'
    cases b
    · rw [if_neg (by decide)] at ef
      exact JE.mk2 hxc ef hd (fun q => hc (q.top ht hw))
    · rw [if_pos rfl] at ef
      exact JE.mk (by omega) ef hd (fun q => hb (q.top ht hw))
  · exact JE.stg hE stg ht.1.1 hs (by omega) (by have := a1.1; omega) a1 a2 a3
theorem TS.doo {t : Nat} {s B2 v2 A v3 W : RS} {xk : Int32} {γ0 : Nat} {jt : Prop} (hI : INV s) (kB : KP t s B2) (cB : cdI B2 = cdI s + 2) (B21 : B2.a 21 (cdI s).toNat = 1) (B21' : B2.a 21 (cdI s + 1).toNat = 1) (B38 : B2.i 38 = s.i 38) (B52 : B2.i 52 = s.i 52) (fB : fr s + 1 ≤ fr B2) (g0 : (γ0 : Int) = goI s) (gB : goI B2 = goI s + 1) (B44 : B2.a 44 γ0 = 0) (B47 : gv B2 47 γ0 = deI s) (ts : TS B2 v2) (k2 : KP t B2 v2) (i2 : INV v2) (s2 : SAME B2 v2) (n2 : SNW s v2) (f2 : fr B2 ≤ fr v2) (kA : KP t s A) (cA : cdI A = cdI v2) (A52 : A.i 52 = s.i 52) (fA : fr v2 ≤ fr A) (eA : seI A = seI v2 ∧ bel 40 (seI v2) v2 A ∧ bel 41 (seI v2) v2 A) (te : ¬ jt → TE A v3) (hjt : jt → cdI v3 = cdI A + 1 ∧ v3.a 21 (cdI A).toNat = 2 ∧ v3.a 22 (cdI A).toNat = 1) (k3 : KP t A v3) (i3 : INV v3) (d3 : v3.i 52 = s.i 52) (f3 : fr A + 1 ≤ fr v3) (cW : cdI W = cdI v3 + 1) (W14 : W.a 21 (cdI v3).toNat = 14) (Wx : W.a 22 (cdI v3).toNat = xk) (hxk : xk.toInt = cdI s + 1) (w21 : ∀ k : Nat, (k : Int) < cdI v3 → W.a 21 k = v3.a 21 k) (w22 : cdI v3 = cdI A + 1 → W.a 22 (cdI A).toNat = v3.a 22 (cdI A).toNat) (v21 : ∀ k : Nat, (k : Int) < cdI v2 → v3.a 21 k = v2.a 21 k) (L2 : LAT noZ B2 v2 W) (L3 : LAT noZ A v3 W) (stg : STG v2 W) (gW : goI W = γ0) (hnop : ∀ (b : Bool) (k : Nat), SITE s v2 γ0 b k → ¬ OPN W k ∧ (k : Int) < cdI v2 ∧ gv W 22 k = if b = true then cdI W else cdI A) (hw : ∀ w : Nat, (w : Int) < waI v2 → gv v2 58 w ≤ γ0) (hr : (v2.i 75 = 1 ∨ v2.a 51 γ0 = 1) → ¬ jt → W.i 75 = 1) (hrb : v2.a 50 γ0 = 1 → W.i 75 = 1) : TS s W := by
  intro f C hA hC h o lv rs hx hy
  have cs := hI.cd
  have c2' := i2.cd
  have c3' := i3.cd
  have fv2 := i2.1.f0
  have fv3 := i3.1.f0
  have le2 := k2.2.1.1
  have le3 := k3.2.1.1
  have t2 := i2.2.2.2.1
  have ek1 : ((cdI s + 1).toNat : Int) = cdI s + 1 := Int.toNat_of_nonneg (by omega)
  have ekA : ((cdI A).toNat : Int) = cdI A := Int.toNat_of_nonneg (by omega)
  have ek3 : ((cdI v3).toNat : Int) = cdI v3 := Int.toNat_of_nonneg c3'.1
  have ksv2 : KP t s v2 := kB.tr k2 (Nat.le_refl _)
  obtain ⟨A2, C2⟩ := L2.use hA hC kB k2
  obtain ⟨A3, C3⟩ := L3.use hA hC kA k3
  have hx2 := hx.2.1
  have hx4 := hx.2.2.2.1
  have kg := kB.2.2.2.2.2.2.1
  have y2 : YE B2 rs := hy.push gB g0 kg.2.1 kg.2.2.1 (by rw [B44]; decide)
  have v2d : v2.i 52 = s.i 52 := s2.2.2.1.trans B52
  have c2 := ts f C A2 C2 h o (lv + 1) rs (hx.upv h (lv + 1) B52 (by omega) (by omega) (by omega) (by omega)) y2
  have gV : goI v2 = (γ0 : Int) + 1 := by have := s2.go; omega
  have d47 : (gv v2 47 γ0).toNat = rs.length := by
    have kg2 := k2.2.2.2.2.2.2.1
    have e : gv v2 47 γ0 = gv B2 47 γ0 := by unfold gv; rw [kg2.2.2.1 γ0 (by omega)]
    have := hx.1
    omega
  have wstep : W.a 21 (cdI s + 1).toNat = 1 := by rw [w21 _ (by omega), v21 _ (by omega), k2.2.1.2.1 _ (by omega)]; exact B21'
  obtain ⟨p1, p2, p3, p4⟩ := hA.cell (k := (cdI s + 1).toNat) (o := 1) (by omega) (by omega) wstep rfl (by decide)
  obtain ⟨q1, q2, q3, q4⟩ := hA.cell (k := (cdI v3).toNat) (o := 14) (x := xk) (by omega) (by omega) W14 Wx (by decide)
  have hsite : ∀ (b : Bool) (k : Nat), SITE s v2 γ0 b k → gv f 22 k = if b = true then cdI W else cdI A := fun b k hs => by
    obtain ⟨n1, n2', n3⟩ := hnop b k hs
    have := (hA.2.2.2.2.1 k hs.1 (by omega)).2.2 n1
    unfold gv at *
    rw [this]; exact n3
  have enbA : ∀ g : Gh, g.isC = C → ENS s W f h o lv rs g → ENB A v3 f g (lv + 1) rs := fun g hg hE => by
    refine ⟨fun k hk => (hE.1.1 k (by omega)).mono (Nat.le_refl _) (by omega), fun y hy' => ?_⟩
    have nb := (ENB.nx (u1 := v2) (w := v2) (⟨fun k hk => hE.1.1 k (by omega), hE.1.2⟩ : ENB s v2 f g lv rs) hg (hC.mid (KP.rf t s) ksv2 L2.2.2.2.1 L2.2.2.1 L2.2.2.2.2.1 L2.2.2.2.2.2) ksv2 (KP.rf t v2) n2 t2 hI.2.2.2.1).2 y (by have := eA.1; omega)
    unfold gv at nb ⊢
    rw [eA.2.1 y (by have := eA.1; omega), eA.2.2 y (by have := eA.1; omega)]
    exact nb
  have cond : (v2.i 75 = 1 ∨ v2.a 51 γ0 = 1) → COD f C (cdI A) h o (lv + 1) rs (fun g => ENS s W f h o lv rs g ∧ FL f g lv (cdI s + 1) (cdI s + 1) h o rs) := by
    intro hq
    by_cases hj : jt
    · obtain ⟨j1, j2, j3⟩ := hjt hj
      have wA1 : W.a 21 (cdI A).toNat = 2 := by rw [w21 _ (by omega)]; exact j2
      have wA2 : W.a 22 (cdI A).toNat = 1 := by rw [w22 j1]; exact j3
      obtain ⟨m1, m2, m3, m4⟩ := hA.cell (k := (cdI A).toNat) (o := 2) (x := 1) (by have := kA.2.1.1; omega) (by omega) wA1 wA2 (by decide)
      have eA1 : (cdI A).toNat + 1 = (cdI v3).toNat := by omega
      have head := CODS.pn (s := v3) (f := f) (C := C) (k := (cdI A).toNat) (h := h) (o := o) (v := lv + 1) (rs := rs) (E := fun g => ENS s W f h o lv rs g ∧ FL f g lv (cdI s + 1) (cdI s + 1) h o rs) (hx.upv h (lv + 1) d3 (by omega) (by omega) (by omega) (by omega)) (hx.upv (h + 1) (lv + 1) d3 (by omega) (by omega) (by omega) (by omega)) (by omega) m1 m2 (by rw [eA1]; exact q1) (fun g _ hE => ⟨(hE.1.1.1 _ (by omega)).mono (Nat.le_refl _) (by omega), (hE.1.1.1 _ (by omega)).mono (Nat.le_refl _) (by omega), by
        rw [eA1, q2, hxk]
        exact hE.2.to (Or.inl (by omega))⟩)
      rw [ekA] at head
      exact head.cod
    · have c3 := te hj f C A3 C3 h o (lv + 1) rs (hx.upv h (lv + 1) A52 (by omega) (by omega) (by omega) (by omega))
      have cN : COD f C (cdI v3).toNat (h + 1) o (lv + 1) rs (fun g => ENS s W f h o lv rs g ∧ FL f g lv (cdI s + 1) (cdI s + 1) h o rs) := by
        refine COD.ins (hx.upv (h + 1) (lv + 1) d3 (by omega) (by omega) (by omega) (by omega)) q4 (fun g _ hE => ⟨?_, (hE.1.1.1 _ (by omega)).mono (Nat.le_refl _) (by omega)⟩)
        have hF1 : FL f g (lv + 1) (((cdI v3).toNat : Int) + 1) (((cdI v3).toNat : Int) + 1) h o rs := by
          have := hE.1.2.1 (hr hq hj)
          rw [cW] at this
          rw [ek3]; exact this.mono (by omega) (Int.le_refl _)
        have hF2 : FL f g (lv + 1) (((cdI v3).toNat : Int) + 1) (gv f 22 (cdI v3).toNat) h o rs := by
          rw [q2, hxk]
          exact hE.2.to (Or.inl (by omega))
        exact okJ_14 (c := (h + 1, o, lv + 1, false, rs)) q1 ⟨by show 1 ≤ h + 1; omega, hF2, fun _ => hF1⟩
      exact COD.seq c3.cod cN (fun g _ hE => hE) (fun g hg hE hF => ⟨enbA g hg hE.1, by rw [ek3] at hF; exact hF⟩)
  have body : COD f C (cdI B2) h o (lv + 1) rs (fun g => ENS s W f h o lv rs g ∧ FL f g lv (cdI s + 1) (cdI s + 1) h o rs) := by
    have env : ∀ g : Gh, ENS s W f h o lv rs g → ((v2.i 75 = 1 ∨ v2.a 51 γ0 = 1) → FL f g (lv + 1) (cdI A) (cdI A) h o rs) → ENS B2 v2 f h o (lv + 1) rs g := fun g hE hx' => by
      refine ⟨⟨fun k hk => (hE.1.1 k (by omega)).mono (Nat.le_refl _) (by omega), (hE.1.mid kB B38 (by omega) : ENB B2 v2 f g lv rs).2⟩, fun q => by rw [← cA]; exact hx' (Or.inl q), ?_⟩
      exact EJ.doo hE.2.2 stg gW gV t2 hsite (by omega) d47 hw (by omega) (fun q => hx' (Or.inr q)) (fun q => hE.2.1 (hrb q))
    by_cases hq : v2.i 75 = 1 ∨ v2.a 51 γ0 = 1
    · exact COD.seq c2 (cond hq) (fun g _ hE => hE) (fun g _ hE hF => env g hE.1 (fun _ => hF))
    · exact c2.imp (fun g _ hE => env g hE.1 (fun q => absurd q hq))
  have head : CODS f C (cdI s + 1).toNat h o lv rs (fun g => ENS s W f h o lv rs g ∧ FL f g (lv + 1) (cdI B2) (cdI B2) h o rs) := by
    refine CODS.ins hx p4 (fun g _ hE => ⟨okJ_1 (c := (h, o, lv, false, rs)) p1 ?_, hE.1.1.1 _ (by omega)⟩)
    have e : (((cdI s + 1).toNat : Int) + 1) = cdI B2 := by omega
    show FS f g (((cdI s + 1).toNat : Int) + 1) h o rs
    rw [e]; exact hE.2.fs
  have rest : COD f C (cdI s + 1) h o lv rs (ENS s W f h o lv rs) := by
    have hl := head.loop (E := ENS s W f h o lv rs) body (fun g _ hE hF => ⟨hE, by rw [ek1] at hF; exact hF⟩) (fun g _ hE _ hF => ⟨hE, hF⟩)
    rw [ek1] at hl
    exact hl.cod
  refine COD.step hA hx cs.1 (by omega) ?_ (fun g _ hE => hE.1.1) rest
  rw [w21 _ (by omega), v21 _ (by omega), k2.2.1.2.1 _ (by omega)]
  exact B21
/-- a list of places is filled that u holds for begun -/
theorem LAT.pt {Z : Nat → Nat → Prop} {s u V W : RS} {Lb : List Nat} (h : LAT Z s u V) (he : EQT V W) (hc : CHN V W) (hn : TN V) (hcd : cdI V ≤ cdI W) (hgo : goI W ≤ goI V) (h21 : ∀ k : Nat, (k : Int) < cdI V → W.a 21 k = V.a 21 k ∧ W.a 23 k = V.a 23 k) (h22 : ∀ k : Nat, (k : Int) < cdI V → k ∉ Lb → W.a 22 k = V.a 22 k) (hL : ∀ k : Nat, k ∈ Lb → cdI s ≤ (k : Int) → (k : Int) < cdI u → OPN u k) : LAT Z s u W := by
  obtain ⟨⟨a1, a2, a3, a4, a5, a6, a7, a8⟩, a9, a10, a11, a12, a13⟩ := h
  refine ⟨⟨by omega, by rw [he.en]; exact a2, by rw [he.tt]; exact a3, by rw [he.i3]; exact a4, fun k k1 k2 => ?_, fun k k1 k2 => ?_, fun k k1 k2 z => ?_, fun k k1 k2 => ?_⟩, fun k k1 k2 z => a9 k k1 k2 (OPN.fin hn he hc hgo z), by rw [he.ca]; exact a10, by rw [he.sl]; exact a11, fun j hj => by rw [he.g (by decide) (by decide)]; exact a12 j hj, fun j h1 h2 => by rw [he.ca] at h2; rw [he.g (by decide) (by decide)]; exact a13 j h1 h2⟩
  · obtain ⟨b1, b2⟩ := a5 k k1 k2
    obtain ⟨c1, c2⟩ := h21 k (by omega)
    exact ⟨c1.trans b1, fun z => ⟨c2.trans (b2 z).1, fun q => (h22 k (by omega) (fun y => q (hL k y k1 k2))).trans ((b2 z).2 q)⟩⟩
  · rw [he.1 26 (by decide) (by decide), he.1 27 (by decide) (by decide), he.1 28 (by decide) (by decide)]; exact a6 k k1 k2
  · rw [he.1 30 (by decide) (by decide), he.1 31 (by decide) (by decide), he.1 32 (by decide) (by decide)]; exact a7 k k1 k2 z
  · rw [he.1 35 (by decide) (by decide), he.1 36 (by decide) (by decide), he.1 37 (by decide) (by decide)]; exact a8 k k1 k2
