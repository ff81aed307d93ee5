/-! reading: labels -/
theorem LEND0 {N n : Nat} {s v W : RS} {t : Nat} {P : RS → Prop} {x : Int32} (h9 : t < 998) (hx : x = 0 ∨ x = 1) (hC : ∀ (u : RS), PS t s u → fr v ≤ fr u → ok (f_X12_parse_10 N n u) P) (hI : INV s) (he : EQT v W) (hc : CHN v W) (hcv : cdI v ≤ cdI W) (gW : goI W = goI s) (gV : goI s ≤ goI v) (kW : KP t s W) (i2 : INV v) (wi : ∀ j : Nat, j ≠ 20 → j ≠ 38 → j ≠ 43 → j ≠ 52 → W.i j = v.i j) (tp : tpI v = t) (kv : KP t s v) (e19 : v.i 19 = s.i 19) (e52 : W.i 52 = s.i 52) (e56 : v.i 56 = s.i 56) (hse2 : seI W ≤ seI v) (snW : SNW s W) (ra : RATE s v) (hcd : cdI W - cdI s ≤ 3 * (fr v - fr s)) (f1 : fr s ≤ fr v) (tk1 : tkI s ≤ tkI v) (hT : ¬ 0 ≤ v.i 18 → TS s (W.setI 75 x)) : ok (((f_X12_over N W x).bind fun p => some p).bind fun p => f_X12_parse_10 N n p) P := by
  have t2 := i2.2.2.2.1
  have e43 : W.i 43 = s.i 43 := Int32.toInt_inj.mp gW
  have fW : fr W = fr v := by unfold fr; rw [wi 11 (by decide) (by decide) (by decide) (by decide)]
  have tkW : tkI W = tkI v := by unfold tkI; rw [wi 17 (by decide) (by decide) (by decide) (by decide)]
  have lW : LXI W := i2.1.of (wi 2 (by decide) (by decide) (by decide) (by decide)) (wi 10 (by decide) (by decide) (by decide) (by decide)) (wi 11 (by decide) (by decide) (by decide) (by decide)) (wi 12 (by decide) (by decide) (by decide) (by decide)) (wi 14 (by decide) (by decide) (by decide) (by decide)) he.2.1
  have kg := kv.2.2.2.2.2.2.1
  have kw := kv.2.2.2.2.2.2.2.2.1
  have waE : waI v = waI s := by unfold waI; rw [e56]
  have deE : deI W = deI s := by unfold deI; rw [e52]
  have ts := hI.2.2.2.1
  have tW : TAB W := t2.fin he hc hcv (by omega) hse2 (fun γ hγ => by
    have := (ts.2.2.2.2.2.2.1 γ (by omega)).2
    have e : gv v 47 γ = gv s 47 γ := by unfold gv; rw [kg.2.2.1 γ (by omega)]
    omega) (fun w hw => by
    have := (ts.2.2.2.2.2.2.2.2.1 w (by omega)).2.2.2
    have e : gv v 58 w = gv s 58 w := by unfold gv; rw [kw.2.2 w (by omega)]
    omega) (by rw [wi 75 (by decide) (by decide) (by decide) (by decide)]; exact i2.r)
  have sm : SAME s W := ⟨(wi 19 (by decide) (by decide) (by decide) (by decide)).trans e19, e43, e52, (wi 56 (by decide) (by decide) (by decide) (by decide)).trans e56⟩
  have rt : RATE s W := by
    have q2 := he.en
    have q3 := he.tt
    have q4 := he.ca
    have q5 := he.sl
    have q6 := he.pe
    unfold RATE at *
    rw [q2, q3, q4, q5, q6, fW, tkW]
    omega
  have iW : INV W := hI.mkS kW lW ((wi 15 (by decide) (by decide) (by decide) (by decide)).trans i2.2.2.1) tW sm snW rt (by omega) (by omega)
  exact IF3 (q := W) h9 hx (fun u hu hf => hC u hu (by omega)) iW (by unfold tpI at *; rw [wi 63 (by decide) (by decide) (by decide) (by decide)]; exact tp) kW sm snW rt (by omega) (by omega) (fun z => hT (fun q => z (by rw [wi 18 (by decide) (by decide) (by decide) (by decide)]; exact q)))
/-- the breaks of the last goal are filled, the goal is gone -/
def PPL (γ0 : Nat) (Lb : List Nat) (xb : Int32) (Y : Nat → Prop) (v W : RS) : Prop := EQT v W ∧ cdI v ≤ cdI W ∧ goI W = γ0 ∧ goI v = (γ0 : Int) + 1 ∧ ISCH v (hd v true γ0) Lb ∧ (∀ k : Nat, (k : Int) < cdI v → W.a 21 k = v.a 21 k ∧ (¬ Y k → W.a 23 k = v.a 23 k)) ∧ (∀ k : Nat, (k : Int) < cdI v → k ∉ Lb → W.a 22 k = v.a 22 k) ∧ (∀ k ∈ Lb, W.a 22 k = xb)
theorem PPL.chn {γ0 : Nat} {Lb : List Nat} {xb : Int32} {Y : Nat → Prop} {v W : RS} (h : PPL γ0 Lb xb Y v W) (ht : TAB v) : CHN v W := by
  obtain ⟨h1, h2, h3, h4, h6, h7, h8, h10⟩ := h
  intro γ b L x hγ hI hx
  obtain ⟨M, m1, m2⟩ := ht.1.1 γ b (by omega)
  have e := ISCH.uniq hI m1
  subst e
  have hlt := m2 x hx
  refine ⟨(h7 x hlt).1, h8 x hlt (fun q => ?_)⟩
  have := (ht.1.2.1 γ γ0 b true _ Lb x (by omega) (by omega) hI h6 hx q).1; omega
theorem PPL.nop {γ0 : Nat} {Lb : List Nat} {xb : Int32} {Y : Nat → Prop} {v W : RS} (h : PPL γ0 Lb xb Y v W) (ht : TAB v) {k : Nat} (hk : k ∈ Lb) : ¬ OPN W k := by
  have hc := h.chn ht
  obtain ⟨h1, h2, h3, h4, h6, h7, h8, h10⟩ := h
  rintro ⟨γ, b, L, x1, x2, x3⟩
  obtain ⟨M, m1, m2⟩ := ht.1.1 γ b (by omega)
  have e := ISCH.uniq x2 (hc.eIS h1 x1 m1)
  subst e
  have := (ht.1.2.1 γ γ0 b true _ Lb k (by omega) (by omega) m1 h6 x3 hk).1; omega
theorem PPL.lat {γ0 : Nat} {Lb : List Nat} {xb : Int32} {Y : Nat → Prop} {v W s1 u1 : RS} {Z : Nat → Nat → Prop} (h : PPL γ0 Lb xb Y v W) (ht : TAB v) (hl : LAT Z s1 u1 v) (hz : ∀ k : Nat, cdI s1 ≤ k → (k : Int) < cdI u1 → ¬ Y k) : LAT Z s1 u1 W := by
  have hc := h.chn ht
  obtain ⟨h1, h2, h3, h4, h6, h7, h8, h10⟩ := h
  refine hl.fin h1 hc ht.1.1 h2 (by omega) (fun k k1 k2 => ?_)
  have hlt : (k : Int) < cdI v := by have := hl.1.1; omega
  exact ⟨(h7 k hlt).1, (h7 k hlt).2 (hz k k1 k2), fun q => h8 k hlt (fun z => q ⟨γ0, true, Lb, by omega, h6, z⟩)⟩
theorem PPL.f {γ0 : Nat} {Lb : List Nat} {xb : Int32} {Y : Nat → Prop} {s v W f : RS} (h : PPL γ0 Lb xb Y v W) (ht : TAB v) (hA : AG0 s W f) {k : Nat} (hs : SITE s v γ0 true k) : gv f 22 k = xb.toInt := by
  obtain ⟨a1, L, a2, a3⟩ := hs
  have hk : k ∈ Lb := by rw [← ISCH.uniq a2 h.2.2.2.2.1]; exact a3
  have hn := h.nop ht hk
  have hlt : (k : Int) < cdI v := by
    obtain ⟨M, m1, m2⟩ := ht.1.1 γ0 true (by have := h.2.2.2.1; omega)
    exact m2 k (by rw [← ISCH.uniq a2 m1]; exact a3)
  have e := (hA.2.2.2.2.1 k a1 (by have := h.2.1; omega)).2.2 hn
  unfold gv
  rw [e, h.2.2.2.2.2.2.2 k hk]
theorem JE.mk2 {v f : RS} {g : Gh} {γ : Nat} {b : Bool} {k h o lv : Nat} {rs : List Rec} {x : Int} (hl : cdI v ≤ x) (hx : gv f 22 k = x) (hd : (gv v 47 γ).toNat = rs.length) (hF : ARV v γ b → FL f g lv x x h o rs) : JE v f g γ b k h o lv rs := by
  have full : rs.length ≤ (gv v 47 γ).toNat := by omega
  have ord : ∀ c : Nat, c ≤ lv → c < lv ∨ c ≤ lv ∧ cdI v ≤ gv f 22 k := fun c hc => Or.inr ⟨hc, by omega⟩
  by_cases ca : ARV v γ b
  · obtain ⟨f1, f2, f3⟩ := hF ca
    by_cases cx : x < cdI f
    · obtain ⟨c, d1, d2, d3, d4, d5, d6⟩ := f3 cx
      refine ⟨c.v, ord _ (by omega), lvA_full full, fun _ _ => ⟨by rw [hx]; exact f1, by rw [hx]; exact f2, fun _ => ⟨c, by rw [hx]; exact d1, d2, ?_, d4, ?_, rfl⟩⟩⟩
      · rw [oA_full full]; exact d3
      · rw [dA_full full]; exact d5
    · exact ⟨lv, ord _ (Nat.le_refl _), lvA_full full, fun _ _ => ⟨by rw [hx]; exact f1, by rw [hx]; exact f2, fun q => by rw [hx] at q; exact absurd q cx⟩⟩
  · exact ⟨lv, ord _ (Nat.le_refl _), lvA_full full, fun q => absurd q ca⟩
theorem EJ.lab {s B2 v2 W f : RS} {g : Gh} {h o lv : Nat} {rs : List Rec} {γ0 : Nat} {Lb : List Nat} {xb : Int32} {Y : Nat → Prop} (hE : EJ s W f g h o lv rs) (hpp : PPL γ0 Lb xb Y v2 W) (ht : TAB v2) (hA : AG0 s W f) (hs : cdI s ≤ cdI B2) (hd : (gv v2 47 γ0).toNat = rs.length) (hw : ∀ w : Nat, (w : Int) < waI v2 → gv v2 58 w ≤ γ0) (hn : ¬ v2.a 44 γ0 = 0) (hcx : cdI v2 ≤ xb.toInt) (hb : v2.a 50 γ0 = 1 → FL f g lv xb.toInt xb.toInt h o rs) : EJ B2 v2 f g h o lv rs := by
  have hchn := hpp.chn ht
  have stg : STG v2 W := STG.fin hpp.1 hchn hpp.2.1 (by have := hpp.2.2.1; have := hpp.2.2.2.1; omega)
  intro γ b k a1 a2 a3
  by_cases e : γ = γ0
  · subst e
    cases b
    · rcases a2 with a2 | a2
      · exact absurd a2 (by decide)
      · exact absurd a2 hn
    · have hs' : SITE s v2 γ true k := ⟨by have := a3.1; omega, a3.2⟩
      exact JE.mk2 hcx (hpp.f ht hA hs') hd (fun q => hb (q.top ht hw))
  · exact JE.stg hE stg ht.1.1 hs (Nat.le_refl _) (by have := a1.1; have := hpp.2.2.1; have := hpp.2.2.2.1; omega) a1 a2 a3
theorem TS.label {t : Nat} {s B2 v2 W : RS} {xb : Int32} {γ0 : Nat} {Lb : List Nat} (hI : INV s) (kB : KP t s B2) (cB : cdI B2 = cdI s) (B38 : B2.i 38 = s.i 38) (B52 : B2.i 52 = s.i 52) (fB : fr s ≤ fr B2) (g0 : (γ0 : Int) = goI s) (gB : goI B2 = goI s + 1) (B44 : B2.a 44 γ0 = 2) (B47 : gv B2 47 γ0 = deI s) (ts : TS B2 v2) (k2 : KP t B2 v2) (i2 : INV v2) (s2 : SAME B2 v2) (f2 : fr B2 ≤ fr v2) (hpp : PPL γ0 Lb xb (fun _ => False) v2 W) (cW : cdI W = cdI v2) (hxb : xb.toInt = cdI W) (hw : ∀ w : Nat, (w : Int) < waI v2 → gv v2 58 w ≤ γ0) (hr0 : v2.i 75 = 1 → W.i 75 = 1) (hrb : v2.a 50 γ0 = 1 → W.i 75 = 1) : TS s W := by
  intro f C hA hC h o lv rs hx hy
  have fv2 := i2.1.f0
  have t2 := i2.2.2.2.1
  have L2 : LAT noZ B2 v2 W := hpp.lat t2 (LAT.rf noZ B2 v2) (fun _ _ _ q => q)
  obtain ⟨A2, C2⟩ := L2.use hA hC kB k2
  have hx2 := hx.2.1
  have kg := kB.2.2.2.2.2.2.1
  have kg2 := k2.2.2.2.2.2.2.1
  have y2 : YE B2 rs := hy.push gB g0 kg.2.1 kg.2.2.1 (by rw [B44]; decide)
  have c2 := ts f C A2 C2 h o lv rs (hx.up h B52 fB (by omega) (by omega)) y2
  rw [cB] at c2
  have d47 : (gv v2 47 γ0).toNat = rs.length := by
    have e : gv v2 47 γ0 = gv B2 47 γ0 := by unfold gv; rw [kg2.2.2.1 γ0 (by omega)]
    have := hx.1
    omega
  refine c2.imp (fun g _ hE => ⟨hE.1.mid kB B38 (by omega), fun q => by rw [← cW]; exact hE.2.1 (hr0 q), ?_⟩)
  exact hE.2.2.lab hpp t2 hA (by omega) d47 hw (by rw [kg2.2.1 γ0 (by omega), B44]; decide) (by omega) (fun q => by rw [hxb]; exact hE.2.1 (hrb q))
theorem p_l8 {N : Nat} {R : RS} (x1 : Int32) (n : Int64) (x4 : Int32) (h4 : goI R ≤ 460) : ∀ (m : Nat) (σ : RS) (g : Int32), LX R σ → σ.i 19 = R.i 19 → (σ = R ∨ ¬ σ.i 15 = 0) → -1 ≤ g.toInt → g.toInt < goI R → g.toInt + 2 ≤ m → ∃ σ', f_X12_label_8 N m σ x1 n x4 g = f_X12_label_60 N σ' x1 n ∧ LX R σ' ∧ σ'.i 19 = R.i 19 ∧ (σ' = R ∨ ¬ σ'.i 15 = 0)
  | 0, σ, g, _, _, _, h1, _, h3 => by omega
  | m + 1, σ, g, hl, h19, hs, h1, h2, h3 => by
    show ∃ σ', b_X12_label_8 N (f_X12_label_8 N m) σ x1 n x4 g = _ ∧ _
    unfold b_X12_label_8
    by_cases c : g < 0
    · rw [if_pos c]; exact ⟨σ, rfl, hl, h19, hs⟩
    rw [if_neg c]
    have h0 : 0 ≤ g.toInt := by
      have : ¬ g.toInt < (0 : Int32).toInt := fun z => c (Int32.lt_iff_toInt_lt.mpr z)
      rw [z_t0] at this
      omega
    rw [if_pos (show ib g 460 from ⟨h0, by omega⟩)]
    have e1 : (-1 : Int32).toInt = -1 := by decide
    have ek : (g + -1).toInt = g.toInt - 1 := by rw [toInt_add] <;> rw [e1] <;> omega
    have go : ∀ τ : RS, LX R τ → τ.i 19 = R.i 19 → (τ = R ∨ ¬ τ.i 15 = 0) → ∃ σ', f_X12_label_8 N m τ x1 n x4 (g + -1) = f_X12_label_60 N σ' x1 n ∧ LX R σ' ∧ σ'.i 19 = R.i 19 ∧ (σ' = R ∨ ¬ σ'.i 15 = 0) := fun τ a b c => p_l8 x1 n x4 h4 m τ (g + -1) a b c (by omega) (by omega) (by omega)
    by_cases c3 : σ.a 44 g.toNatClampNeg = 3
    · rw [if_pos c3]; exact ⟨σ, rfl, hl, h19, hs⟩
    rw [if_neg c3]
    by_cases c2 : σ.a 44 g.toNatClampNeg = 2
    · rw [if_pos c2]
      by_cases cl : lg_cmp (σ.b 45 g.toNatClampNeg) n = 0
      · rw [if_pos cl]
        obtain ⟨S, eS, r1, r2, r3⟩ := p_fl (N := N) hl.2.2.2.1 4 x4 (by decide)
        rw [eS]
        exact go S (hl.tr r1) (r3.trans h19) (Or.inr r2)
      · rw [if_neg cl]; exact go σ hl h19 hs
    · rw [if_neg c2]; exact go σ hl h19 hs
theorem p_l125 {N : Nat} : ∀ (m : Nat) (σ : RS) (h : Int32), -1 ≤ h.toInt → h.toInt < 460 → h.toInt + 2 ≤ m → ∃ Z, f_X12_label_125 N m σ h = f_X12_label_188 N Z ∧ Z.i = σ.i ∧ Z.b = σ.b ∧ (∀ k : Nat, k ≠ 46 → Z.a k = σ.a k) ∧ (∀ δ : Nat, Z.a 46 δ = σ.a 46 δ ∨ (δ : Int) ≤ h.toInt ∧ Z.a 46 δ = -3 ∧ ∀ ε : Nat, δ ≤ ε → (ε : Int) ≤ h.toInt → σ.a 44 ε = 2 ∧ σ.a 46 ε = -2)
  | 0, σ, h, h1, _, h3 => by omega
  | m + 1, σ, h, h1, h2, h3 => by
    show ∃ Z, b_X12_label_125 N (f_X12_label_125 N m) σ h = _ ∧ _
    unfold b_X12_label_125 f_X12_label_168
    have stop : ∃ Z, f_X12_label_188 N σ = f_X12_label_188 N Z ∧ Z.i = σ.i ∧ Z.b = σ.b ∧ (∀ k : Nat, k ≠ 46 → Z.a k = σ.a k) ∧ (∀ δ : Nat, Z.a 46 δ = σ.a 46 δ ∨ (δ : Int) ≤ h.toInt ∧ Z.a 46 δ = -3 ∧ ∀ ε : Nat, δ ≤ ε → (ε : Int) ≤ h.toInt → σ.a 44 ε = 2 ∧ σ.a 46 ε = -2) := ⟨σ, rfl, rfl, rfl, fun _ _ => rfl, fun _ => Or.inl rfl⟩
    by_cases c : h < 0
    · rw [if_pos c]; exact stop
    rw [if_neg c]
    have h0 : 0 ≤ h.toInt := by
      have : ¬ h.toInt < (0 : Int32).toInt := fun z => c (Int32.lt_iff_toInt_lt.mpr z)
      rw [z_t0] at this
      omega
    have ci := clampI h0
    rw [if_pos (show ib h 460 from ⟨h0, by omega⟩)]
    by_cases c2 : σ.a 44 h.toNatClampNeg = 2
    · rw [if_pos c2]
      by_cases c3 : σ.a 46 h.toNatClampNeg = -2
      · rw [if_pos c3]
        have e1 : (-1 : Int32).toInt = -1 := by decide
        have ek : (h + -1).toInt = h.toInt - 1 := by rw [toInt_add] <;> rw [e1] <;> omega
        obtain ⟨Z, z1, z2, z3, z4, z5⟩ := p_l125 m (σ.setA 46 h.toNatClampNeg (-3)) (h + -1) (by omega) (by omega) (by omega)
        refine ⟨Z, z1, z2, z3, fun k hk => (z4 k hk).trans (setA_nk hk), fun δ => ?_⟩
        by_cases cd : δ = h.toNatClampNeg
        · right
          subst cd
          refine ⟨by omega, ?_, fun ε d1 d2 => ?_⟩
          · rcases z5 h.toNatClampNeg with q | q
            · rw [q]; exact setA_at
            · have := q.1; omega
          · have : ε = h.toNatClampNeg := by omega
            subst this
            exact ⟨c2, c3⟩
        · rcases z5 δ with q | ⟨q1, q2, q3⟩
          · left; rw [q]; exact setA_ne cd
          · right
            refine ⟨by omega, q2, fun ε d1 d2 => ?_⟩
            by_cases ce : ε = h.toNatClampNeg
            · subst ce; exact ⟨c2, c3⟩
            · have := q3 ε d1 (by omega)
              exact ⟨this.1, (setA_ne ce).symm.trans this.2⟩
      · rw [if_neg c3]; exact stop
    · rw [if_neg c2]; exact stop
