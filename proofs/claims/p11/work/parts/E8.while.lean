/-! reading: while: typing -/
theorem EJ.loop {s B2 v2 W f : RS} {g : Gh} {h o lv lv' lc : Nat} {rs : List Rec} {γ0 : Nat} {Lc Lb : List Nat} {xc xb : Int32} {Z : Nat → Prop} (hE : EJ s W f g h o lv rs) (hpp : PPR γ0 Lc Lb xc xb Z v2 W) (ht : TAB v2) (hA : AG0 s W f) (hs : cdI s ≤ cdI B2) (hl : lv < lv') (hlc : lc < lv') (hd : (gv v2 47 γ0).toNat = rs.length) (hw : ∀ w : Nat, (w : Int) < waI v2 → gv v2 58 w ≤ γ0) (hc : v2.a 51 γ0 = 1 → FL f g lc xc.toInt xc.toInt h o rs) (hb : v2.a 50 γ0 = 1 → FL f g lv xb.toInt xb.toInt h o rs) : EJ B2 v2 f g h o lv' rs := by
  have hchn := hpp.chn ht
  have stg : STG v2 W := STG.fin hpp.1 hchn hpp.2.1 (by have := hpp.2.2.1; have := hpp.2.2.2.1; omega)
  intro γ b k a1 a2 a3
  by_cases e : γ = γ0
  · subst e
    have hs' : SITE s v2 γ b k := ⟨by have := a3.1; omega, a3.2⟩
    have ef := hpp.f ht hA hs'
    cases b
    · rw [if_neg (by decide)] at ef
      exact JE.mk hlc ef hd (fun q => hc (q.top ht hw))
    · rw [if_pos rfl] at ef
      exact JE.mk hl ef hd (fun q => hb (q.top ht hw))
  · exact JE.stg hE stg ht.1.1 hs (by omega) (by have := a1.1; have := hpp.2.2.1; have := hpp.2.2.2.1; omega) a1 a2 a3
/-- the jumps to a goal that is new at B lie behind B -/
theorem new_sites {t : Nat} {B v : RS} {γ0 : Nat} (hk : KP t B v) (hB : ∀ b : Bool, hd B b γ0 = -1) (hg : (γ0 : Int) < goI B) {b : Bool} {L : List Nat} (hI : ISCH v (hd v b γ0) L) : ∀ x ∈ L, cdI B ≤ (x : Int) ∧ (x : Int) < cdI v := by
  obtain ⟨L1, c1, c2⟩ := hk.2.2.2.2.2.2.2.1 γ0 b [] hg (by rw [hB b]; show (-1 : Int) < 0; omega) (fun x hx => absurd hx List.not_mem_nil)
  rw [List.append_nil] at c1
  have e := ISCH.uniq hI c1
  subst e
  exact c2
theorem KP.ppr {t : Nat} {s v W : RS} {γ0 : Nat} {Lc Lb : List Nat} {xc xb : Int32} {Z : Nat → Prop} (h : KP t s v) (hpp : PPR γ0 Lc Lb xc xb Z v W) (ht : TAB v) (hg : goI s ≤ γ0) (hse : seI s ≤ seI W) (h18 : W.i 18 = v.i 18) (hs : ∀ k : Nat, k ∈ Lc ∨ k ∈ Lb ∨ Z k → cdI s ≤ (k : Int)) (hf : ∀ k : Nat, 64 ≤ k → k ≤ 73 → bel k t v W) : KP t s W := by
  refine h.fin hpp.1 (hpp.chn ht) hpp.2.1 (by have := hpp.2.2.1; omega) hse (fun z => by rw [h18]; exact z) (fun k hk => ?_) hf
  have hlt : (k : Int) < cdI v := by have := h.2.1.1; omega
  obtain ⟨h1, h2, h3, h4, h5, h6, h7, h8, h9, h10, h11⟩ := hpp
  refine ⟨(h7 k hlt).1, h8 k hlt (fun q => ?_) (fun q => ?_) (fun q => ?_), (h7 k hlt).2⟩
  · have := hs k (Or.inl q); omega
  · have := hs k (Or.inr (Or.inl q)); omega
  · have := hs k (Or.inr (Or.inr q)); omega
theorem TS.while {t : Nat} {s A v1 B2 v2 W : RS} {xc xc' xb : Int32} {γ0 : Nat} {Lc Lb : List Nat} {jt : Prop} (hI : INV s) (kA : KP t s A) (cA : cdI A = cdI s + 1) (A21 : A.a 21 (cdI s).toNat = 1) (A38 : A.i 38 = s.i 38) (A52 : A.i 52 = s.i 52) (fA : fr s + 1 ≤ fr A) (te : ¬ jt → TE A v1) (hjt : jt → cdI v1 = cdI A + 1 ∧ v1.a 21 (cdI A).toNat = 2 ∧ v1.a 22 (cdI A).toNat = 1) (k1 : KP t A v1) (i1 : INV v1) (d1 : v1.i 52 = s.i 52) (f1 : fr A + 1 ≤ fr v1) (gv1 : goI v1 = goI s)
  (kB : KP t v1 B2) (cB : cdI B2 = cdI v1 + 2) (B21 : B2.a 21 (cdI v1).toNat = 13) (B21' : B2.a 21 (cdI v1 + 1).toNat = 1) (B38 : B2.i 38 = s.i 38) (B52 : B2.i 52 = s.i 52) (fB : fr v1 ≤ fr B2) (g0 : (γ0 : Int) = goI s) (gB : goI B2 = goI s + 1) (B44 : B2.a 44 γ0 = 0) (B47 : gv B2 47 γ0 = deI s) (bB : ∀ b : Bool, hd B2 b γ0 = -1)
  (ts : TS B2 v2) (k2 : KP t B2 v2) (i2 : INV v2) (s2 : SAME B2 v2) (f2 : fr B2 ≤ fr v2) (hpp : PPR γ0 Lc Lb xc xb (fun k => k = (cdI v1).toNat) v2 W) (cW : cdI W = cdI v2 + 1) (hxc : xc.toInt = cdI A) (hxb : xb.toInt = cdI W) (W1 : W.a 22 (cdI v1).toNat = xb) (W2 : W.a 21 (cdI v2).toNat = 15) (W3 : W.a 22 (cdI v2).toNat = xc') (hxc' : xc'.toInt = cdI A) (hw : ∀ w : Nat, (w : Int) < waI v2 → gv v2 58 w ≤ γ0) (hr0 : ¬ jt → W.i 75 = 1) (hrb : v2.a 50 γ0 = 1 → W.i 75 = 1) (hse : seI v1 ≤ seI W) (w18 : W.i 18 = v2.i 18) (wf : ∀ k : Nat, 64 ≤ k → k ≤ 73 → bel k t v2 W) : TS s W := by
  intro f C hA hC h o lv rs hx hy
  have cs := hI.cd
  have c1' := i1.cd
  have c2' := i2.cd
  have fv1 := i1.1.f0
  have fv2 := i2.1.f0
  have le1 := k1.2.1.1
  have le2 := k2.2.1.1
  have ek : ((cdI v1).toNat : Int) = cdI v1 := Int.toNat_of_nonneg c1'.1
  have ek' : ((cdI v1 + 1).toNat : Int) = cdI v1 + 1 := Int.toNat_of_nonneg (by omega)
  have ek2 : ((cdI v2).toNat : Int) = cdI v2 := Int.toNat_of_nonneg c2'.1
  have ekA : ((cdI A).toNat : Int) = cdI A := Int.toNat_of_nonneg (by omega)
  have t2 := i2.2.2.2.1
  have ns : ∀ k : Nat, k ∈ Lc ∨ k ∈ Lb → cdI B2 ≤ (k : Int) := fun k hk => by
    rcases hk with hk | hk
    · exact (new_sites k2 bB (by omega) hpp.2.2.2.2.1 k hk).1
    · exact (new_sites k2 bB (by omega) hpp.2.2.2.2.2.1 k hk).1
  have kv1W : KP t v1 W := (kB.tr k2 (Nat.le_refl _)).ppr hpp t2 (by omega) hse w18 (fun k hk => by
    rcases hk with q | q | q
    · have := ns k (Or.inl q); omega
    · have := ns k (Or.inr q); omega
    · omega) wf
  have gW : goI W = goI v1 := by have := hpp.2.2.1; omega
  have L1 : LAT noZ A v1 W := (LAT.rf noZ A v1).kp kv1W i1.tn (by omega)
  have L2 : LAT noZ B2 v2 W := hpp.lat t2 (LAT.rf noZ B2 v2) (fun k h1 h2 e => by
    have e : k = (cdI v1).toNat := e
    omega)
  have ksB : KP t s B2 := (kA.tr k1 (Nat.le_refl _)).tr kB (Nat.le_refl _)
  obtain ⟨A1, C1⟩ := L1.use hA hC kA k1
  obtain ⟨A2, C2⟩ := L2.use hA hC ksB k2
  have hx2 := hx.2.1
  have hx4 := hx.2.2.2.1
  have kg := ksB.2.2.2.2.2.2.1
  have y2 : YE B2 rs := hy.push gB g0 kg.2.1 kg.2.2.1 (by rw [B44]; decide)
  have c2 := ts f C A2 C2 h o (lv + 1) rs (hx.upv h (lv + 1) B52 (by omega) (by omega) (by omega) (by omega)) y2
  have e21a : W.a 21 (cdI v1).toNat = 13 := by rw [(hpp.2.2.2.2.2.2.1 _ (by omega)).1, k2.2.1.2.1 _ (by omega)]; exact B21
  have e21b : W.a 21 (cdI v1 + 1).toNat = 1 := by rw [(hpp.2.2.2.2.2.2.1 _ (by omega)).1, k2.2.1.2.1 _ (by omega)]; exact B21'
  obtain ⟨p1, p2, p3, p4⟩ := hA.cell (k := (cdI v1).toNat) (o := 13) (x := xb) (by omega) (by omega) e21a W1 (by decide)
  obtain ⟨q1, q2, q3, q4⟩ := hA.cell (k := (cdI v1 + 1).toNat) (o := 1) (by omega) (by omega) e21b rfl (by decide)
  obtain ⟨r1, r2, r3, r4⟩ := hA.cell (k := (cdI v2).toNat) (o := 15) (x := xc') (by omega) (by omega) W2 W3 (by decide)
  have d47 : (gv v2 47 γ0).toNat = rs.length := by
    have e : gv v2 47 γ0 = gv B2 47 γ0 := by
      have kg2 := k2.2.2.2.2.2.2.1
      unfold gv; rw [kg2.2.2.1 γ0 (by omega)]
    have := hx.1
    omega
  have v2d : v2.i 52 = s.i 52 := s2.2.2.1.trans B52
  have body : COD f C ((cdI v1 + 1).toNat) h o lv rs (fun g => ENS s W f h o lv rs g ∧ FL f g lv (cdI A) (cdI A) h o rs) := by
    have env : ∀ g : Gh, ENS s W f h o lv rs g → FL f g lv (cdI A) (cdI A) h o rs → (v2.i 75 = 1 → FL f g (lv + 1) (cdI v2) (cdI v2) h o rs) → ENS B2 v2 f h o (lv + 1) rs g := fun g hE hFA hx' => by
      refine ⟨⟨fun k hk => (hE.1.1 k (by omega)).mono (Nat.le_refl _) (by omega), (hE.1.mid ksB B38 (by omega) : ENB B2 v2 f g lv rs).2⟩, hx', ?_⟩
      exact EJ.loop (lc := lv) hE.2.2 hpp t2 hA (by omega) (by omega) (by omega) d47 hw (fun _ => by rw [hxc]; exact hFA) (fun q => by rw [hxb]; exact hE.2.1 (hrb q))
    have rest2 : COD f C (((cdI v1 + 1).toNat : Int) + 1) h o (lv + 1) rs (fun g => ENS s W f h o lv rs g ∧ FL f g lv (cdI A) (cdI A) h o rs) := by
      have e : (((cdI v1 + 1).toNat : Int) + 1) = cdI B2 := by omega
      rw [e]
      by_cases cr : v2.i 75 = 1
      · have cJ : COD f C (cdI v2).toNat h o (lv + 1) rs (fun g => ENS s W f h o lv rs g ∧ FL f g lv (cdI A) (cdI A) h o rs) := by
          refine COD.ins (hx.upv h (lv + 1) v2d (by omega) (by omega) (by omega) (by omega)) r4 (fun g _ hE => ⟨?_, (hE.1.1.1 _ (by omega)).mono (Nat.le_refl _) (by omega)⟩)
          have hF2 : FL f g (lv + 1) (((cdI v2).toNat : Int) + 1) (gv f 22 (cdI v2).toNat) h o rs := by
            rw [r2, hxc']
            exact hE.2.to (Or.inl (by omega))
          exact okJ_15 (c := (h, o, lv + 1, false, rs)) r1 hF2
        exact COD.seq c2 cJ (fun g _ hE => hE) (fun g _ hE hF => env g hE.1 hE.2 (fun _ => by rw [ek2] at hF; exact hF))
      · exact c2.imp (fun g _ hE => env g hE.1 hE.2 (fun q => absurd q cr))
    exact COD.stp (s := B2) (hx.upv h lv B52 (by omega) (by omega) (by omega) (by omega)) q4 q1 (fun g _ hE => hE.1.1.1 _ (by omega)) rest2
  have hst : W.a 21 (cdI s).toNat = 1 := by
    rw [(hpp.2.2.2.2.2.2.1 _ (by omega)).1, k2.2.1.2.1 _ (by omega), kB.2.1.2.1 _ (by omega), k1.2.1.2.1 _ (by omega)]
    exact A21
  have rest : COD f C (cdI s + 1) h o lv rs (ENS s W f h o lv rs) := by
    rw [← cA]
    by_cases hj : jt
    · obtain ⟨j1, j2, j3⟩ := hjt hj
      have wA1 : W.a 21 (cdI A).toNat = 2 := by
        rw [(hpp.2.2.2.2.2.2.1 _ (by omega)).1, k2.2.1.2.1 _ (by omega), kB.2.1.2.1 _ (by omega)]; exact j2
      have wA2 : W.a 22 (cdI A).toNat = 1 := by
        rw [kv1W.2.1.2.2.1 _ (by omega)]; exact j3
      obtain ⟨m1, m2, m3, m4⟩ := hA.cell (k := (cdI A).toNat) (o := 2) (x := 1) (by omega) (by omega) wA1 wA2 (by decide)
      have eA1 : (cdI A).toNat + 1 = (cdI v1).toNat := by omega
      have head := CODS.pj (s := v1) (f := f) (C := C) (k := (cdI A).toNat) (h := h) (o := o) (v := lv) (rs := rs) (E := fun g => ENS s W f h o lv rs g ∧ FL f g lv (cdI v1 + 1) (cdI v1 + 1) h o rs) (hx.upv h lv d1 (by omega) (by omega) (by omega) (by omega)) (hx.upv (h + 1) lv d1 (by omega) (by omega) (by omega) (by omega)) (by omega) m1 m2 (by rw [eA1]; exact p1) (fun g _ hE => ⟨hE.1.1.1 _ (by omega), hE.1.1.1 _ (by omega), by
        have e : ((cdI A).toNat : Int) + 2 = cdI v1 + 1 := by omega
        rw [e]; exact hE.2⟩)
      rw [ekA] at head
      exact (head.loop body (fun g _ hE hF => ⟨hE, hF⟩) (fun g _ hE _ hF => ⟨hE, by rw [ek'] at hF; exact hF⟩)).cod
    · have c1 := te hj f C A1 C1 h o lv rs (hx.up h A52 (by omega) (by omega) (by omega))
      have cz : COD f C (cdI v1).toNat (h + 1) o lv rs (fun g => ENS s W f h o lv rs g ∧ FL f g lv (cdI A) (cdI A) h o rs) := by
        have c13 : COD f C (cdI v1).toNat (h + 1) o lv rs (fun g => (ENS s W f h o lv rs g ∧ FL f g lv (cdI A) (cdI A) h o rs) ∧ FL f g lv (cdI v1 + 1) (cdI v1 + 1) h o rs) := by
          refine COD.ins (hx.upv (h + 1) lv d1 (by omega) (by omega) (by omega) (by omega)) p4 (fun g _ hE => ⟨?_, hE.1.1.1.1 _ (by omega)⟩)
          have hF1 : FL f g lv (((cdI v1).toNat : Int) + 1) (((cdI v1).toNat : Int) + 1) h o rs := by rw [ek]; exact hE.2
          have hF2 : FL f g lv (((cdI v1).toNat : Int) + 1) (gv f 22 (cdI v1).toNat) h o rs := by
            rw [p2, hxb]
            exact (hE.1.1.2.1 (hr0 hj)).mono (Nat.le_refl _) (by omega)
          exact okJ_13 (c := (h + 1, o, lv, false, rs)) p1 ⟨by show 1 ≤ h + 1; omega, fun _ => hF2, hF1⟩
        exact COD.seq c13 body (fun g _ hE => hE) (fun g _ hE hF => ⟨hE, by rw [ek'] at hF; exact hF⟩)
      exact (c1.loop cz (fun g _ hE hF => ⟨hE, hF⟩) (fun g _ hE _ hF => ⟨hE.1.mid kA A38 (by omega), by rw [ek] at hF; exact hF⟩)).cod
  exact COD.step hA hx cs.1 (by omega) hst (fun g _ hE => hE.1.1) rest
