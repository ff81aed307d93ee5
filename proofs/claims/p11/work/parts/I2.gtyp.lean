/-! reading: switch: its typing -/
/-- the entry of the switch, and the links of its entries, may still change -/
def ZG (c0 : Nat) (L : List Nat) : Nat → Nat → Prop := fun a k => a = 22 ∧ k = c0 ∨ a = 27 ∧ k ∈ L
/-- groups laid so far: from every entry the code is as it should be -/
def TSX (L : List Nat) (c0 : Nat) (V w : RS) : Prop := ∀ (f : RS) (C : Nat → Bool), AGZ (ZG c0 L) V w f → AGC V w C → ∀ (h o v : Nat) (rs : List Rec), CX V h o v rs → YE V rs → ∃ S : Nat → Ctx → Prop, ∀ g : Gh, g.isC = C → (∀ k c, S k c → g.T k c) → ENS V w f h o v rs g → (∀ j ∈ L, FL f g v (gv w 26 j) (gv w 26 j) h o rs) ∧ ∀ k c, S k c → GOOD f g k c
theorem TSX.nil (c0 : Nat) (V w : RS) : TSX [] c0 V w := fun _ _ _ _ _ _ _ _ _ _ => ⟨fun _ _ => False, fun _ _ _ _ => ⟨fun j hj => absurd hj List.not_mem_nil, fun _ _ q => q.elim⟩⟩
theorem OPN.tblb {u w : RS} (h : TBL u w) {k : Nat} (ho : OPN w k) : OPN u k := by
  obtain ⟨γ, b, M, x1, x2, x3⟩ := ho
  rw [h.hd] at x2
  exact ⟨γ, b, M, by rw [← h.go]; exact x1, x2.of (fun y _ => ⟨by rw [h.1 21 (by omega)], by rw [h.1 22 (by omega)]⟩), x3⟩
theorem AGZ.tblb {Z : Nat → Nat → Prop} {s u w f : RS} (h : AGZ Z s w f) (tb : TBL u w) : AGZ Z s u f := by
  obtain ⟨a1, a2, a3, a4, a5, a6, a7, a8⟩ := h
  rw [tb.cd] at a1 a5
  rw [tb.en] at a2 a6
  rw [tb.tt] at a3 a7
  rw [tb.ca] at a8
  refine ⟨a1, a2, a3, by rw [← tb.2.2 3 (by omega) (by omega) (by omega) (by omega)]; exact a4, fun k k1 k2 => ?_, fun k k1 k2 => ?_, fun k k1 k2 z => ?_, fun k k1 k2 => ?_⟩
  · obtain ⟨b1, b2⟩ := a5 k k1 k2
    rw [tb.1 21 (by omega)] at b1
    refine ⟨b1, fun z => ?_⟩
    obtain ⟨b3, b4⟩ := b2 z
    rw [tb.1 23 (by omega)] at b3
    rw [tb.1 22 (by omega)] at b4
    exact ⟨b3, fun q => b4 (fun y => q (y.tblb tb))⟩
  · have := a6 k k1 k2
    rw [tb.1 26 (by omega), tb.1 27 (by omega), tb.1 28 (by omega)] at this
    exact this
  · have := a7 k k1 k2 z
    rw [tb.1 30 (by omega), tb.1 31 (by omega), tb.1 32 (by omega)] at this
    exact this
  · have := a8 k k1 k2
    rw [tb.1 35 (by omega), tb.1 36 (by omega), tb.1 37 (by omega)] at this
    exact this
theorem AGC.tblb {s u w : RS} {C : Nat → Bool} (h : AGC s w C) (tb : TBL u w) : AGC s u C := by
  intro x h1 h2
  have := h x h1 (by rw [tb.sl]; exact h2)
  rw [this]
  constructor
  · rintro ⟨j, j1, j2, j3⟩
    exact ⟨j, j1, by rw [← tb.ca]; exact j2, by rw [← tb.g (by decide)]; exact j3⟩
  · rintro ⟨j, j1, j2, j3⟩
    exact ⟨j, j1, by rw [tb.ca]; exact j2, by rw [tb.g (by decide)]; exact j3⟩
theorem TSX.tbl {L : List Nat} {c0 : Nat} {V w w' : RS} (h : TSX L c0 V w) (tb : TBL w w') (hn : TN w) (r : w.i 75 = 1 → w'.i 75 = 1) : TSX L c0 V w' := by
  intro f C hA hC h' o v rs hx hy
  obtain ⟨S, hS⟩ := h f C (hA.tblb tb) (hC.tblb tb) h' o v rs hx hy
  refine ⟨S, fun g hg hT hE => ?_⟩
  have e := hS g hg hT ⟨⟨fun k hk => hE.1.1 k (by rw [tb.cd]; exact hk), hE.1.2⟩, fun q => by rw [← tb.cd]; exact hE.2.1 (r q), hE.2.2.stg (STG.tbs tb.tbs) hn (Int.le_refl _) (Nat.le_refl _) tb.go⟩
  exact ⟨fun j hj => by rw [tb.g (by decide)]; exact e.1 j hj, e.2⟩
/-- a group more -/
theorem TSX.snoc {t c0 : Nat} {L : List Nat} {y : Int32} {V u U B v : RS} (h1 : TSX L c0 V u) (en : ENT t c0 L y u U) (tb : TBL U B) (ts : TS B v) (k2 : KP t B v) (s2 : SAME B v) (kV : KP t V u) (kB : KP t V B) (c1 : (c0 : Int) < cdI u) (c21 : ¬ u.a 21 c0 = 36) (e0 : 0 ≤ enI V) (hL : ∀ j ∈ L, (j : Int) < enI u) (nw : SNW V B) (tV : TAB V) (tu : TAB u) (tB : TAB B) (fB : fr V ≤ fr B) (f9 : fr B ≤ 900) (dB : B.i 52 = V.i 52) (hyB : ∀ rs, YE V rs → YE B rs) : TSX (L ++ [(enI u).toNat]) c0 V v := by
  intro f C hA hC h o lv rs hx hy
  have eu0 : 0 ≤ enI u := by have := kV.2.2.1.1; omega
  have ee : ((enI u).toNat : Int) = enI u := Int.toNat_of_nonneg eu0
  have cB : cdI B = cdI u := tb.cd.trans en.cd
  have enB : enI B = enI u + 1 := tb.en.trans en.2.1
  have i4 : ∀ j : Nat, j < 10 ∨ 20 ≤ j → ¬ (52 ≤ j ∧ j ≤ 55) → j ≠ 63 → j ≠ 75 → j ≠ 24 → B.i j = u.i j := fun j a b c d e => (tb.2.2 j a b c d).trans (en.1 j e)
  have trB : trI B = trI u := by unfold trI; rw [i4 29 (by omega) (by omega) (by omega) (by omega) (by omega)]
  have caB : caI B = caI u := by unfold caI; rw [i4 33 (by omega) (by omega) (by omega) (by omega) (by omega)]
  have slB : slI B = slI u := by unfold slI; rw [i4 42 (by omega) (by omega) (by omega) (by omega) (by omega)]
  have goB : goI B = goI u := tb.go.trans en.go
  have aB : ∀ k : Nat, k ≠ 22 → ¬ (25 ≤ k ∧ k ≤ 28) → k < 64 → B.a k = u.a k := fun k a b c => (tb.1 k (Or.inl c)).trans (en.2.2.2.1 k a b (by omega))
  have B22 : ∀ j : Nat, j ≠ c0 → B.a 22 j = u.a 22 j := fun j hj => by rw [tb.1 22 (by omega)]; exact en.2.2.2.2.2.2.1 j hj
  have Bk : ∀ k j : Nat, 25 ≤ k → k ≤ 28 → (j : Int) < enI u → k ≠ 27 ∨ j ∉ L → B.a k j = u.a k j := fun k j a b c d => by rw [tb.1 k (by omega)]; exact en.2.2.2.2.2.2.2.1 k j a b (by omega) d
  have opb : ∀ k : Nat, (k : Int) < cdI u → OPN v k → OPN u k := fun k hk ho => en.opn c21 ((OPN.back k2 tB.1.1 (by rw [s2.go]; exact Int.le_refl _) (by omega) ho).tblb tb)
  obtain ⟨kc, ke, kt, kh, ks⟩ : KC B v ∧ KE B v ∧ KT B v ∧ KH B v ∧ KS B v := ⟨k2.2.1, k2.2.2.1, k2.2.2.2.1, k2.2.2.2.2.1, k2.2.2.2.2.2.1⟩
  have i3 : v.i 3 = u.i 3 := (k2.1.1.1 3 (by omega)).trans (i4 3 (by omega) (by omega) (by omega) (by omega) (by omega))
  have A1 : AGZ (ZG c0 L) V u f := by
    obtain ⟨a1, a2, a3, a4, a5, a6, a7, a8⟩ := hA
    have q1 := kc.1
    have q2 := ke.1
    have q3 := kt.1
    have q4 := kh.1
    refine ⟨by omega, by omega, by omega, by rw [← i3]; exact a4, fun k k1 k2' => ?_, fun k k1 k2' => ?_, fun k k1 k2' z => ?_, fun k k1 k2' => ?_⟩
    · obtain ⟨b1, b2⟩ := a5 k k1 (by omega)
      refine ⟨b1.trans ((kc.2.1 k (by omega)).trans (by rw [aB 21 (by decide) (by omega) (by decide)])), fun z => ?_⟩
      have nz : k ≠ c0 := fun e => z (Or.inl ⟨rfl, e⟩)
      obtain ⟨b3, b4⟩ := b2 (fun q => by
        rcases q with q | q
        · exact nz q.2
        · exact absurd q.1 (by decide))
      refine ⟨b3.trans ((kc.2.2.2 k (by omega)).trans (by rw [aB 23 (by decide) (by omega) (by decide)])), fun q => ?_⟩
      exact (b4 (fun y => q (opb k k2' y))).trans ((kc.2.2.1 k (by omega)).trans (B22 k nz))
    · obtain ⟨b1, b2, b3⟩ := a6 k k1 (by omega)
      refine ⟨b1.trans ((ke.2.2.1 k (by omega)).trans (Bk 26 k (by omega) (by omega) k2' (Or.inl (by decide)))), b2.trans ((ke.2.2.2.2 k (by omega)).trans (Bk 28 k (by omega) (by omega) k2' (Or.inl (by decide)))), fun z => ?_⟩
      have nz : k ∉ L := fun q => z (Or.inr ⟨rfl, q⟩)
      refine (b3 (fun q => ?_)).trans ((ke.2.2.2.1 k (by omega)).trans (Bk 27 k (by omega) (by omega) k2' (Or.inr nz)))
      rcases q with q | q
      · exact absurd q.1 (by decide)
      · rcases List.mem_append.mp q.2 with q | q
        · exact nz q
        · rcases List.mem_cons.mp q with q | q
          · omega
          · exact absurd q List.not_mem_nil
    · obtain ⟨b1, b2, b3⟩ := a7 k k1 (by omega) (fun q => by
        rcases q with q | q
        · exact absurd q.1 (by decide)
        · exact absurd q.1 (by decide))
      exact ⟨b1.trans ((kt.2.1 k (by omega)).trans (by rw [aB 30 (by decide) (by omega) (by decide)])), b2.trans ((kt.2.2.1 k (by omega)).trans (by rw [aB 31 (by decide) (by omega) (by decide)])), b3.trans ((kt.2.2.2 k (by omega)).trans (by rw [aB 32 (by decide) (by omega) (by decide)]))⟩
    · obtain ⟨b1, b2, b3⟩ := a8 k k1 (by omega)
      refine ⟨b1.trans ((kh.2.2.1 k (by omega)).trans (by rw [aB 35 (by decide) (by omega) (by decide)])), b2.trans ((kh.2.2.2.1 k (by omega)).trans (by rw [aB 36 (by decide) (by omega) (by decide)])), fun _ => (b3 (fun q => by
        rcases q with q | q
        · exact absurd q.1 (by decide)
        · exact absurd q.1 (by decide))).trans ((kh.2.2.2.2.1 k (by omega)).trans (by rw [aB 37 (by decide) (by omega) (by decide)]))⟩
  have g36 : ∀ j : Nat, (j : Int) < caI u → gv v 36 j = gv u 36 j := fun j hj => by
    unfold gv
    rw [kh.2.2.2.1 j (by omega), aB 36 (by decide) (by omega) (by decide)]
  have C1 : AGC V u C := hC.mid (KP.rf t V) kV (by have := ks.2.1; omega) (by have := kh.1; omega) g36 (fun j j1 j2 => by
    have := (kh.2.2.2.2.2 j (by omega) j2).1; omega)
  have A2 : AG0 B v f := by
    obtain ⟨a1, a2, a3, a4, a5, a6, a7, a8⟩ := hA
    have q1 := kB.2.1.1
    have q2 := kB.2.2.1.1
    have q3 := kB.2.2.2.1.1
    have q4 := kB.2.2.2.2.1.1
    refine ⟨a1, a2, a3, a4, fun k k1 k2' => ?_, fun k k1 k2' => ?_, fun k k1 k2' => ?_, fun k k1 k2' => ?_⟩
    · obtain ⟨b1, b2⟩ := a5 k (by omega) k2'
      obtain ⟨b3, b4⟩ := b2 (fun q => by
        rcases q with q | q
        · have := q.2; omega
        · exact absurd q.1 (by decide))
      exact ⟨b1, b3, b4⟩
    · obtain ⟨b1, b2, b3⟩ := a6 k (by omega) k2'
      refine ⟨b1, b3 (fun q => ?_), b2⟩
      rcases q with q | q
      · exact absurd q.1 (by decide)
      · rcases List.mem_append.mp q.2 with q | q
        · have := hL k q; omega
        · rcases List.mem_cons.mp q with q | q
          · omega
          · exact absurd q List.not_mem_nil
    · exact a7 k (by omega) k2' (fun q => by
        rcases q with q | q
        · exact absurd q.1 (by decide)
        · exact absurd q.1 (by decide))
    · obtain ⟨b1, b2, b3⟩ := a8 k (by omega) k2'
      exact ⟨b1, b2, b3 (fun q => by
        rcases q with q | q
        · exact absurd q.1 (by decide)
        · exact absurd q.1 (by decide))⟩
  have C2 : AGC B v C := hC.mid kB k2 (Int.le_refl _) (Int.le_refl _) (fun _ _ => rfl) (fun j j1 j2 => by omega)
  have hx2 := hx.2.1
  obtain ⟨S1, z1⟩ := h1 f C A1 C1 h o lv rs hx hy
  obtain ⟨S2, z2⟩ := ts f C A2 C2 h o lv rs (hx.up h dB fB f9 (by omega)) (hyB rs hy)
  have stg : STG u v := ((STG.ent en c21).tr (STG.tbs tb.tbs)).tr (STG.kp k2 s2.go s2.wa)
  have q1 := kc.1
  refine ⟨fun k c => S1 k c ∨ S2 k c, fun g hg hT hE => ?_⟩
  obtain ⟨f2, d2⟩ := z2 g hg (fun k c q => hT k c (Or.inr q)) ⟨hE.1.nx hg hC kB k2 nw tB tV, hE.2.1, fun γ b k a1 a2 a3 => hE.2.2 γ b k a1 a2 ⟨by have := a3.1; have := kB.2.1.1; omega, a3.2⟩⟩
  obtain ⟨f1, d1⟩ := z1 g hg (fun k c q => hT k c (Or.inl q)) ⟨⟨fun k hk => hE.1.1 k (by omega), hE.1.2⟩, fun _ => by rw [← cB]; exact f2, hE.2.2.stg stg tu.1.1 (Int.le_refl _) (Nat.le_refl _) (by rw [s2.go, goB])⟩
  refine ⟨fun j hj => ?_, fun k c q => ?_⟩
  · rcases List.mem_append.mp hj with q | q
    · have := hL j q
      have e : gv v 26 j = gv u 26 j := by
        unfold gv
        rw [ke.2.2.1 j (by omega), Bk 26 j (by omega) (by omega) this (Or.inl (by decide))]
      rw [e]
      exact f1 j q
    · rcases List.mem_cons.mp q with q | q
      · have e : gv v 26 j = cdI B := by
          rw [q]
          unfold gv
          rw [ke.2.2.1 _ (by omega), tb.1 26 (by omega), en.2.2.2.2.2.2.2.2.1, cB]
          rfl
        rw [e]
        exact f2
      · exact absurd q List.not_mem_nil
  · rcases q with q | q
    · exact d1 k c q
    · exact d2 k c q
theorem KP.ppl {t : Nat} {s v W : RS} {γ0 : Nat} {Lb : List Nat} {xb : Int32} {Y : Nat → Prop} (h : KP t s v) (hpp : PPL γ0 Lb xb Y v W) (ht : TAB v) (hg : goI s ≤ γ0) (hse : seI s ≤ seI W) (h18 : W.i 18 = v.i 18) (hs : ∀ k : Nat, k ∈ Lb ∨ Y k → cdI s ≤ (k : Int)) (hf : ∀ k : Nat, 64 ≤ k → k ≤ 73 → bel k t v W) : KP t s W := by
  refine h.fin hpp.1 (hpp.chn ht) hpp.2.1 (by have := hpp.2.2.1; omega) hse (fun z => by rw [h18]; exact z) (fun k hk => ?_) hf
  have hlt : (k : Int) < cdI v := by have := h.2.1.1; omega
  obtain ⟨h1, h2, h3, h4, h6, h7, h8, h10⟩ := hpp
  refine ⟨(h7 k hlt).1, h8 k hlt (fun q => ?_), (h7 k hlt).2 (fun q => ?_)⟩
  · have := hs k (Or.inl q); omega
  · have := hs k (Or.inr q); omega
/-- a switch -/
theorem TS.groups {t : Nat} {s A V w W : RS} {xb : Int32} {γ0 : Nat} {Lb L : List Nat} (hI : INV s) (kA : KP t s A) (cA : cdI A = cdI s + 1) (A21 : A.a 21 (cdI s).toNat = 1) (A38 : A.i 38 = s.i 38) (A52 : A.i 52 = s.i 52) (fA : fr s ≤ fr A) (te : TE A V) (k1 : KP t A V) (i1 : INV V) (d1 : V.i 52 = s.i 52) (f1 : fr A + 1 ≤ fr V) (gV : goI V = goI s) (V38 : V.i 38 = s.i 38) (kV : KP t V w) (tsx : TSX L (cdI V).toNat V w) (w21 : w.a 21 (cdI V).toNat = 28) (lt : cdI V + 1 ≤ cdI w) (iw : INV w) (g0 : (γ0 : Int) = goI s) (w44 : w.a 44 γ0 = 1) (w47 : gv w 47 γ0 = deI s) (hch : ENCH w (gv w 22 (cdI V).toNat) L) (hL : ∀ j ∈ L, enI V ≤ (j : Int) ∧ (j : Int) < enI w ∧ cdI V + 1 ≤ gv w 26 j) (hpp : PPL γ0 Lb xb (fun k => k = (cdI V).toNat) w W) (sb : ∀ k ∈ Lb, cdI V + 1 ≤ (k : Int)) (cW : cdI W = cdI w) (hxb : xb.toInt = cdI W) (W23 : W.a 23 (cdI V).toNat = xb) (hw : ∀ j : Nat, (j : Int) < waI w → gv w 58 j ≤ γ0) (hr0 : w.i 75 = 1 → W.i 75 = 1) (hrb : w.a 50 γ0 = 1 → W.i 75 = 1) (hrd : (∀ j ∈ L, w.a 28 j = 0) → W.i 75 = 1) (hse : seI V ≤ seI W) (w18 : W.i 18 = w.i 18) (wf : ∀ k : Nat, 64 ≤ k → k ≤ 73 → bel k t w W) : TS s W := by
  intro f C hA hC h o lv rs hx hy
  have cs := hI.cd
  have c1' := i1.cd
  have cw' := iw.cd
  have fv1 := i1.1.f0
  have fw1 := iw.1.f0
  have le1 := k1.2.1.1
  have tw := iw.2.2.2.1
  have ek : ((cdI V).toNat : Int) = cdI V := Int.toNat_of_nonneg c1'.1
  have hx2 := hx.2.1
  have ksV : KP t s V := kA.tr k1 (Nat.le_refl _)
  have ksw : KP t s w := ksV.tr kV (Nat.le_refl _)
  have kVW : KP t V W := kV.ppl hpp tw (by omega) hse w18 (fun k hk => by
    rcases hk with q | q
    · have := sb k q; omega
    · have q : k = (cdI V).toNat := q
      omega) wf
  have gW : goI W = goI V := by have := hpp.2.2.1; omega
  have L1 : LAT noZ A V W := (LAT.rf noZ A V).kp kVW i1.tn (by omega)
  obtain ⟨A1, C1⟩ := L1.use hA hC kA k1
  have he := hpp.1
  have enW : enI W = enI w := he.en
  have en0 : 0 ≤ enI s := hI.2.2.2.2.2.2.1.1
  have ken : enI s ≤ enI V := ksV.2.2.1.1
  have nw2 := iw.2.2.2.2.2.2.1
  have cn : (cdI V).toNat ∉ Lb := fun q => by have := sb _ q; omega
  have aE : ∀ k : Nat, 24 ≤ k → k < 64 → W.a k = w.a k := fun k a b => he.1 k (Or.inr a) (Or.inl b)
  have AZ : AGZ (ZG (cdI V).toNat L) V w f := by
    have chn := hpp.chn tw
    have opf : ∀ k, OPN W k → OPN w k := fun k q => OPN.fin tw.1.1 he chn (by have := hpp.2.2.2.1; have := hpp.2.2.1; omega) q
    obtain ⟨a1, a2, a3, a4, a5, a6, a7, a8⟩ := hA
    have q1 := ksV.2.1.1
    have q3 := ksV.2.2.2.1.1
    have q4 := ksV.2.2.2.2.1.1
    have e3 := he.tt
    have e4 := he.ca
    refine ⟨by omega, by omega, by omega, by rw [← he.i3]; exact a4, fun k k1 k2' => ?_, fun k k1 k2' => ?_, fun k k1 k2' _ => ?_, fun k k1 k2' => ?_⟩
    · obtain ⟨b1, b2, b3⟩ := a5 k (by omega) (by omega)
      have h7 := hpp.2.2.2.2.2.1 k k2'
      refine ⟨b1.trans h7.1, fun z => ⟨b2.trans (h7.2 (fun e => z (Or.inl ⟨rfl, e⟩))), fun q => ?_⟩⟩
      exact (b3 (fun y => q (opf k y))).trans (hpp.2.2.2.2.2.2.1 k k2' (fun y => q ⟨γ0, true, Lb, by have := hpp.2.2.2.1; omega, hpp.2.2.2.2.1, y⟩))
    · obtain ⟨b1, b2, b3⟩ := a6 k (by omega) (by omega)
      rw [aE 26 (by omega) (by omega)] at b1
      rw [aE 27 (by omega) (by omega)] at b2
      rw [aE 28 (by omega) (by omega)] at b3
      exact ⟨b1, b3, fun _ => b2⟩
    · obtain ⟨b1, b2, b3⟩ := a7 k (by omega) (by omega)
      rw [aE 30 (by omega) (by omega)] at b1
      rw [aE 31 (by omega) (by omega)] at b2
      rw [aE 32 (by omega) (by omega)] at b3
      exact ⟨b1, b2, b3⟩
    · obtain ⟨b1, b2, b3⟩ := a8 k (by omega) (by omega)
      rw [aE 35 (by omega) (by omega)] at b1
      rw [aE 36 (by omega) (by omega)] at b2
      rw [aE 37 (by omega) (by omega)] at b3
      exact ⟨b1, b2, fun _ => b3⟩
  have CZ : AGC V w C := hC.mid ksV kV (by rw [he.sl]; exact Int.le_refl _) (by rw [he.ca]; exact Int.le_refl _) (fun j _ => he.g (by omega) (by omega) j) (fun j j1 j2 => by rw [he.ca] at j2; omega)
  have kg := ksV.2.2.2.2.2.2.1
  obtain ⟨S1, z1⟩ := tsx f C AZ CZ h o lv rs (hx.up h d1 (by omega) (by omega) (by omega)) (hy.of gV kg.2.1 kg.2.2.1)
  have c1 := te f C A1 C1 h o lv rs (hx.up h A52 fA (by omega) (by omega))
  have e21 : W.a 21 (cdI V).toNat = 28 := by rw [(hpp.2.2.2.2.2.1 _ (by omega)).1]; exact w21
  have e22 : W.a 22 (cdI V).toNat = w.a 22 (cdI V).toNat := hpp.2.2.2.2.2.2.1 _ (by omega) cn
  obtain ⟨p1, p2, p3, p4⟩ := hA.cell (k := (cdI V).toNat) (o := 28) (x := w.a 22 (cdI V).toNat) (by omega) (by omega) e21 e22 (by decide)
  have p3 : gv f 23 (cdI V).toNat = cdI W := by
    rw [p3]; unfold gv; rw [W23]; exact hxb
  have hchf : ENCH f (gv f 22 (cdI V).toNat) L := by
    have e : gv f 22 (cdI V).toNat = gv w 22 (cdI V).toNat := p2
    rw [e]
    refine hch.of (fun j hj => ?_)
    have := hL j hj
    unfold gv
    rw [(hA.2.2.2.2.2.1 j (by omega) (by omega)).2.1, aE 27 (by omega) (by omega)]
  have g26 : ∀ j ∈ L, gv f 26 j = gv w 26 j := fun j hj => by
    have := hL j hj
    unfold gv
    rw [(hA.2.2.2.2.2.1 j (by omega) (by omega)).1, aE 26 (by omega) (by omega)]
  have len : L.length ≤ 500 := nd_len 500 L hch.nd (fun j hj => by have := hL j hj; omega)
  have enf := hA.2.1
  have xlt : gv f 22 (cdI V).toNat < enI f := by
    cases L with
    | nil => have q : gv f 22 (cdI V).toNat < 0 := hchf; omega
    | cons j L => have q := hchf.1; have := hL j (List.mem_cons_self ..); omega
  have d47 : (gv w 47 γ0).toNat = rs.length := by have := hx.1; omega
  have env : ∀ g : Gh, ENS s W f h o lv rs g → ENS V w f h o lv rs g := fun g hE => ⟨hE.1.mid ksV V38 (by omega), fun q => by rw [← cW]; exact hE.2.1 (hr0 q), hE.2.2.lab hpp tw hA (by omega) d47 hw (by rw [w44]; decide) (by omega) (fun q => by rw [hxb]; exact hE.2.1 (hrb q))⟩
  have c28 : COD f C (cdI V) (h + 1) o lv rs (ENS s W f h o lv rs) := by
    refine ⟨fun k c => S1 k c ∨ (k = (cdI V).toNat ∧ c = (h + 1, o, lv, false, rs)), fun g hg hT hE => ?_⟩
    obtain ⟨fl, gd⟩ := z1 g hg (fun k c q => hT k c (Or.inl q)) (env g hE)
    refine ⟨⟨by omega, by omega, fun _ => ⟨(h + 1, o, lv, false, rs), hT _ _ (Or.inr ⟨rfl, rfl⟩), rfl, Nat.le_refl _, rfl, rfl, Or.inr ⟨Nat.le_refl _, Int.le_refl _⟩⟩⟩, fun k c q => ?_⟩
    rcases q with q | ⟨q1, q2⟩
    · exact gd k c q
    subst q1
    subst q2
    have hEn : ∀ j : Nat, entryIn f j 500 (gv f 22 (cdI V).toNat) → FL f g lv (((cdI V).toNat : Int) + 1) (gv f 26 j) h o rs := fun j hj => by
      have jL := hchf.inn hj
      rw [g26 j jL]
      exact (fl j jL).mono (Nat.le_refl _) (by have := (hL j jL).2.2; omega)
    have hEy : ¬ (∃ j : Nat, entryIn f j 500 (gv f 22 (cdI V).toNat) ∧ ¬ gv f 28 j = 0) → FL f g lv (((cdI V).toNat : Int) + 1) (gv f 23 (cdI V).toNat) h o rs := fun nE => by
      have all : ∀ j ∈ L, w.a 28 j = 0 := fun j hj => by
        by_cases q : gv f 28 j = 0
        · have := hL j hj
          have e : f.a 28 j = w.a 28 j := by rw [(hA.2.2.2.2.2.1 j (by omega) (by omega)).2.2, aE 28 (by omega) (by omega)]
          unfold gv at q
          rw [e] at q
          exact Int32.toInt_inj.mp (by rw [z_t0]; exact q)
        · exact absurd ⟨j, hchf.mem hj len, q⟩ nE
      rw [p3]
      exact (hE.2.1 (hrd all)).mono (Nat.le_refl _) (by omega)
    exact (hx.up (s1 := V) (h + 1) d1 (by omega) (by omega) (by omega)).good (fun q => by cases q) (okJ_28 (c := (h + 1, o, lv, false, rs)) p1 ⟨by show 1 ≤ h + 1; omega, xlt, hEn, hEy⟩) (hE.1.1 _ (by omega))
  have rest : COD f C (cdI s + 1) h o lv rs (ENS s W f h o lv rs) := by
    rw [← cA]
    exact COD.seq c1.cod c28 (fun g _ hE => hE) (fun g _ hE hF => ⟨hE.1.mid kA A38 (by omega), hF⟩)
  refine COD.step hA hx cs.1 (by omega) ?_ (fun g _ hE => hE.1.1) rest
  rw [(hpp.2.2.2.2.2.1 _ (by omega)).1, kV.2.1.2.1 _ (by omega), k1.2.1.2.1 _ (by omega)]
  exact A21
