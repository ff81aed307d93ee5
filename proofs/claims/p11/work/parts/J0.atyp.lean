/-! reading: arms: their typing -/
/-- from a later state to an earlier -/
theorem AGZ.pre {Z : Nat → Nat → Prop} {t : Nat} {V B w f : RS} (hA : AGZ Z V w f) (k : KP t B w) (hn : TN B) (hg : goI w ≤ goI B) : AGZ Z V B f := by
  obtain ⟨a1, a2, a3, a4, a5, a6, a7, a8⟩ := hA
  obtain ⟨kc, ke, kt, kh⟩ : KC B w ∧ KE B w ∧ KT B w ∧ KH B w := ⟨k.2.1, k.2.2.1, k.2.2.2.1, k.2.2.2.2.1⟩
  have q1 := kc.1
  have q2 := ke.1
  have q3 := kt.1
  have q4 := kh.1
  refine ⟨by omega, by omega, by omega, by rw [← k.1.1.1 3 (by omega)]; exact a4, fun j j1 j2 => ?_, fun j j1 j2 => ?_, fun j j1 j2 z => ?_, fun j j1 j2 => ?_⟩
  · obtain ⟨b1, b2⟩ := a5 j j1 (by omega)
    refine ⟨b1.trans (kc.2.1 j (by omega)), fun z => ?_⟩
    obtain ⟨b3, b4⟩ := b2 z
    exact ⟨b3.trans (kc.2.2.2 j (by omega)), fun q => (b4 (fun y => q (OPN.back k hn hg j2 y))).trans (kc.2.2.1 j (by omega))⟩
  · obtain ⟨b1, b2, b3⟩ := a6 j j1 (by omega)
    exact ⟨b1.trans (ke.2.2.1 j (by omega)), b2.trans (ke.2.2.2.2 j (by omega)), fun z => (b3 z).trans (ke.2.2.2.1 j (by omega))⟩
  · obtain ⟨b1, b2, b3⟩ := a7 j j1 (by omega) z
    exact ⟨b1.trans (kt.2.1 j (by omega)), b2.trans (kt.2.2.1 j (by omega)), b3.trans (kt.2.2.2 j (by omega))⟩
  · obtain ⟨b1, b2, b3⟩ := a8 j j1 (by omega)
    exact ⟨b1.trans (kh.2.2.1 j (by omega)), b2.trans (kh.2.2.2.1 j (by omega)), fun z => (b3 z).trans (kh.2.2.2.2.1 j (by omega))⟩
/-- what was laid since B is whole -/
theorem AGZ.inn {Z : Nat → Nat → Prop} {t : Nat} {V B w f : RS} (hA : AGZ Z V w f) (k : KP t V B) (z1 : ∀ j : Nat, cdI B ≤ j → ¬ Z 22 j) (z2 : ∀ j : Nat, enI B ≤ j → ¬ Z 27 j) (z3 : ∀ j : Nat, trI B ≤ j → ¬ Z 30 j) (z4 : ∀ j : Nat, caI B ≤ j → ¬ Z 37 j) : AG0 B w f := by
  obtain ⟨a1, a2, a3, a4, a5, a6, a7, a8⟩ := hA
  have q1 := k.2.1.1
  have q2 := k.2.2.1.1
  have q3 := k.2.2.2.1.1
  have q4 := k.2.2.2.2.1.1
  refine ⟨a1, a2, a3, a4, fun j j1 j2 => ?_, fun j j1 j2 => ?_, fun j j1 j2 => ?_, fun j j1 j2 => ?_⟩
  · obtain ⟨b1, b2⟩ := a5 j (by omega) j2
    obtain ⟨b3, b4⟩ := b2 (z1 j j1)
    exact ⟨b1, b3, b4⟩
  · obtain ⟨b1, b2, b3⟩ := a6 j (by omega) j2
    exact ⟨b1, b3 (z2 j j1), b2⟩
  · exact a7 j (by omega) j2 (z3 j j1)
  · obtain ⟨b1, b2, b3⟩ := a8 j (by omega) j2
    exact ⟨b1, b2, b3 (z4 j j1)⟩
theorem AGZ.ent {t c0 : Nat} {L : List Nat} {y : Int32} {V u U f : RS} (hA : AGZ (ZG c0 (L ++ [(enI u).toNat])) V U f) (en : ENT t c0 L y u U) (c21 : ¬ u.a 21 c0 = 36) (eu0 : 0 ≤ enI u) : AGZ (ZG c0 L) V u f := by
  obtain ⟨a1, a2, a3, a4, a5, a6, a7, a8⟩ := hA
  have ee : ((enI u).toNat : Int) = enI u := Int.toNat_of_nonneg eu0
  have ec := en.cd
  have een := en.2.1
  have e3 : trI U = trI u := by unfold trI; rw [en.1 29 (by decide)]
  have e4 : caI U = caI u := by unfold caI; rw [en.1 33 (by decide)]
  have aU : ∀ k : Nat, k ≠ 22 → ¬ (25 ≤ k ∧ k ≤ 28) → k < 64 → U.a k = u.a k := fun k a b c => en.2.2.2.1 k a b (by omega)
  refine ⟨by omega, by omega, by omega, by rw [← en.1 3 (by decide)]; exact a4, fun k k1 k2 => ?_, fun k k1 k2 => ?_, fun k k1 k2 z => ?_, fun k k1 k2 => ?_⟩
  · obtain ⟨b1, b2⟩ := a5 k k1 (by omega)
    refine ⟨b1.trans (by rw [aU 21 (by decide) (by omega) (by decide)]), fun z => ?_⟩
    have nz : k ≠ c0 := fun e => z (Or.inl ⟨rfl, e⟩)
    obtain ⟨b3, b4⟩ := b2 (fun q => by
      rcases q with q | q
      · exact nz q.2
      · exact absurd q.1 (by decide))
    exact ⟨b3.trans (by rw [aU 23 (by decide) (by omega) (by decide)]), fun q => (b4 (fun y => q (en.opn c21 y))).trans (en.2.2.2.2.2.2.1 k nz)⟩
  · obtain ⟨b1, b2, b3⟩ := a6 k k1 (by omega)
    refine ⟨b1.trans (en.2.2.2.2.2.2.2.1 26 k (by omega) (by omega) (by omega) (Or.inl (by decide))), b2.trans (en.2.2.2.2.2.2.2.1 28 k (by omega) (by omega) (by omega) (Or.inl (by decide))), fun z => ?_⟩
    have nz : k ∉ L := fun q => z (Or.inr ⟨rfl, q⟩)
    refine (b3 (fun q => ?_)).trans (en.2.2.2.2.2.2.2.1 27 k (by omega) (by omega) (by omega) (Or.inr nz))
    rcases q with q | q
    · exact absurd q.1 (by decide)
    · rcases List.mem_append.mp q.2 with q | q
      · exact nz q
      · rcases List.mem_cons.mp q with q | q
        · omega
        · exact absurd q List.not_mem_nil
  · obtain ⟨b1, b2, b3⟩ := a7 k k1 (by omega) (fun q => by
      rcases q with q | q
      · exact absurd q.1 (by decide)
      · exact absurd q.1 (by decide))
    exact ⟨b1.trans (by rw [aU 30 (by decide) (by omega) (by decide)]), b2.trans (by rw [aU 31 (by decide) (by omega) (by decide)]), b3.trans (by rw [aU 32 (by decide) (by omega) (by decide)])⟩
  · obtain ⟨b1, b2, b3⟩ := a8 k k1 (by omega)
    exact ⟨b1.trans (by rw [aU 35 (by decide) (by omega) (by decide)]), b2.trans (by rw [aU 36 (by decide) (by omega) (by decide)]), fun _ => (b3 (fun q => by
      rcases q with q | q
      · exact absurd q.1 (by decide)
      · exact absurd q.1 (by decide))).trans (by rw [aU 37 (by decide) (by omega) (by decide)])⟩
theorem AGC.ent {t c0 : Nat} {L : List Nat} {y : Int32} {V u U : RS} {C : Nat → Bool} (h : AGC V U C) (en : ENT t c0 L y u U) : AGC V u C := by
  have e4 : caI U = caI u := by unfold caI; rw [en.1 33 (by decide)]
  have e6 : slI U = slI u := by unfold slI; rw [en.1 42 (by decide)]
  intro x h1 h2
  rw [h x h1 (by rw [e6]; exact h2)]
  constructor
  · rintro ⟨j, j1, j2, j3⟩
    exact ⟨j, j1, by rw [← e4]; exact j2, by rw [← en.g (by decide) (by omega) (by decide)]; exact j3⟩
  · rintro ⟨j, j1, j2, j3⟩
    exact ⟨j, j1, by rw [e4]; exact j2, by rw [en.g (by decide) (by omega) (by decide)]; exact j3⟩
theorem OPN.i38 {w : RS} {x : Int32} {k : Nat} (h : OPN w k) : OPN (w.setI 38 x) k := by
  obtain ⟨γ, b, M, x1, x2, x3⟩ := h
  exact ⟨γ, b, M, x1, by cases b <;> exact x2.of (fun y _ => ⟨rfl, rfl⟩), x3⟩
theorem AG0.i38 {s w f : RS} (h : AG0 s w f) (x : Int32) : AG0 s (w.setI 38 x) f := ⟨h.1, h.2.1, h.2.2.1, h.2.2.2.1, fun k a b => ⟨(h.2.2.2.2.1 k a b).1, (h.2.2.2.2.1 k a b).2.1, fun q => (h.2.2.2.2.1 k a b).2.2 (fun y => q y.i38)⟩, h.2.2.2.2.2.1, h.2.2.2.2.2.2.1, h.2.2.2.2.2.2.2⟩
theorem AGZ.i38 {Z : Nat → Nat → Prop} {s w f : RS} (h : AGZ Z s w f) (x : Int32) : AGZ Z s (w.setI 38 x) f := ⟨h.1, h.2.1, h.2.2.1, h.2.2.2.1, fun k a b => ⟨(h.2.2.2.2.1 k a b).1, fun z => ⟨((h.2.2.2.2.1 k a b).2 z).1, fun q => ((h.2.2.2.2.1 k a b).2 z).2 (fun y => q y.i38)⟩⟩, h.2.2.2.2.2.1, h.2.2.2.2.2.2.1, h.2.2.2.2.2.2.2⟩
/-- the record of a switch that answers -/
def ARM (c0 h o v : Nat) : Rec := (3, c0, 0, h, o, v, false, false)
/-- arms laid so far -/
def TSA (L0 L : List Nat) (c0 : Nat) (V w : RS) : Prop := ∀ (f : RS) (C : Nat → Bool), AGZ (ZG c0 L) V w f → AGC V w C → ∀ (h o v : Nat) (rs : List Rec), CX V h o v rs → ∃ S : Nat → Ctx → Prop, ∀ g : Gh, g.isC = C → (∀ k c, S k c → g.T k c) → ENB V w f g v (ARM c0 h o v :: rs) → (∀ j ∈ L0, FL f g v (gv w 26 j) (gv w 26 j) h o (ARM c0 h o v :: rs)) ∧ ∀ k c, S k c → GOOD f g k c
theorem TSA.nil (c0 : Nat) (V w : RS) : TSA [] [] c0 V w := fun _ _ _ _ _ _ _ _ _ => ⟨fun _ _ => False, fun _ _ _ _ => ⟨fun j hj => absurd hj List.not_mem_nil, fun _ _ q => q.elim⟩⟩
theorem TSA.tbl {L0 L : List Nat} {c0 : Nat} {V w w' : RS} (h : TSA L0 L c0 V w) (tb : TBL w w') : TSA L0 L c0 V w' := by
  intro f C hA hC h' o v rs hx
  obtain ⟨S, hS⟩ := h f C (hA.tblb tb) (hC.tblb tb) h' o v rs hx
  refine ⟨S, fun g hg hT hE => ?_⟩
  have e := hS g hg hT ⟨fun k hk => hE.1 k (by rw [tb.cd]; exact hk), hE.2⟩
  exact ⟨fun j hj => by rw [tb.g (by decide)]; exact e.1 j hj, e.2⟩
theorem TSA.ent {t c0 : Nat} {L0 L : List Nat} {y : Int32} {V u U : RS} (h : TSA L0 L c0 V u) (en : ENT t c0 L y u U) (c21 : ¬ u.a 21 c0 = 36) (eu0 : 0 ≤ enI u) (hL : ∀ j ∈ L0, (j : Int) < enI u) : TSA L0 (L ++ [(enI u).toNat]) c0 V U := by
  intro f C hA hC h' o v rs hx
  have ee : ((enI u).toNat : Int) = enI u := Int.toNat_of_nonneg eu0
  obtain ⟨S, hS⟩ := h f C (hA.ent en c21 eu0) (hC.ent en) h' o v rs hx
  refine ⟨S, fun g hg hT hE => ?_⟩
  have e := hS g hg hT ⟨fun k hk => hE.1 k (by rw [en.cd]; exact hk), hE.2⟩
  refine ⟨fun j hj => ?_, e.2⟩
  have := hL j hj
  have e26 : gv U 26 j = gv u 26 j := by unfold gv; rw [en.2.2.2.2.2.2.2.1 26 j (by omega) (by omega) (by omega) (Or.inl (by decide))]
  rw [e26]
  exact e.1 j hj
theorem CX.arm {V B : RS} {h o v c0 : Nat} {rs : List Rec} (hx : CX V h o v rs) (hd : deI B = deI V + 1) (hf : fr V ≤ fr B) (f9 : fr B ≤ 900) (d9 : deI B ≤ 250) : CX B h o v (ARM c0 h o v :: rs) := by
  obtain ⟨c1, c2, c3, c4, c5, c6, c7, c8⟩ := hx
  have e : wv (ARM c0 h o v :: rs) = wv rs := by
    unfold wv
    rw [if_neg (show ¬ Rec.k (ARM c0 h o v) = 2 by show ¬ (3 : Nat) = 2; decide), Nat.zero_add]
    cases rs <;> rfl
  exact ⟨by show ((rs.length + 1 : Nat) : Int) = deI B; omega, by omega, by omega, by omega, by rw [e]; omega, ⟨Or.inr rfl, c6⟩, f9, d9⟩
/-- a piece of code that is one arm -/
def PCE (c0 : Nat) (V B w : RS) : Prop := ∀ (f : RS) (C : Nat → Bool), AG0 B w f → AGC B w C → ∀ (h o v : Nat) (rs : List Rec), CX V h o v rs → ∃ S : Nat → Ctx → Prop, ∀ g : Gh, g.isC = C → (∀ k c, S k c → g.T k c) → ENB V w f g v (ARM c0 h o v :: rs) → FL f g v (cdI B) (cdI B) h o (ARM c0 h o v :: rs) ∧ ∀ k c, S k c → GOOD f g k c
theorem TSA.add {t c0 : Nat} {L0 L : List Nat} {V B w : RS} (h : TSA L0 L c0 V B) (hp : PCE c0 V B w) (kB : KP t V B) (k : KP t B w) (hn : TN B) (hg : goI w ≤ goI B) (c1 : (c0 : Int) < cdI B) (hL : ∀ j ∈ L, (j : Int) < enI B) (hpe : ∀ j ∈ L, j ∈ L0 ∨ gv B 26 j = cdI B) : TSA L L c0 V w := by
  intro f C hA hC h' o v rs hx
  have kh := k.2.2.2.2.1
  have ke := k.2.2.1
  have kc := k.2.1
  have C1 : AGC V B C := hC.mid (KP.rf t V) kB k.2.2.2.2.2.1.2.1 kh.1 (fun j hj => by unfold gv; rw [kh.2.2.2.1 j hj]) (fun j j1 j2 => (kh.2.2.2.2.2 j j1 j2).1)
  have C2 : AGC B w C := hC.mid kB k (Int.le_refl _) (Int.le_refl _) (fun _ _ => rfl) (fun j j1 j2 => by omega)
  have A2 : AG0 B w f := hA.inn kB (fun j hj q => by
    rcases q with q | q
    · have := q.2; omega
    · exact absurd q.1 (by decide)) (fun j hj q => by
    rcases q with q | q
    · exact absurd q.1 (by decide)
    · have := hL j q.2; omega) (fun j _ q => by
    rcases q with q | q
    · exact absurd q.1 (by decide)
    · exact absurd q.1 (by decide)) (fun j _ q => by
    rcases q with q | q
    · exact absurd q.1 (by decide)
    · exact absurd q.1 (by decide))
  obtain ⟨S1, z1⟩ := h f C (hA.pre k hn hg) C1 h' o v rs hx
  obtain ⟨S2, z2⟩ := hp f C A2 C2 h' o v rs hx
  refine ⟨fun k c => S1 k c ∨ S2 k c, fun g hgC hT hE => ?_⟩
  obtain ⟨f1, d1⟩ := z1 g hgC (fun k c q => hT k c (Or.inl q)) ⟨fun j hj => hE.1 j (by have := kc.1; omega), hE.2⟩
  obtain ⟨f2, d2⟩ := z2 g hgC (fun k c q => hT k c (Or.inr q)) hE
  refine ⟨fun j hj => ?_, fun k c q => ?_⟩
  · have e26 : gv w 26 j = gv B 26 j := by unfold gv; rw [ke.2.2.1 j (hL j hj)]
    rw [e26]
    rcases hpe j hj with q | q
    · exact f1 j q
    · rw [q]; exact f2
  · rcases q with q | q
    · exact d1 k c q
    · exact d2 k c q
/-- an arm that is an expression -/
theorem PCE.expr {t c0 : Nat} {V B v w : RS} (te : TE B v) (kV : KP t V B) (k2 : KP t B v) (iv : INV v) (kw : KP t v w) (gw : goI w ≤ goI v) (cw : cdI w = cdI v + 1) (w21 : w.a 21 (cdI v).toNat = 30) (B38 : B.i 38 = V.i 38) (dB : deI B = deI V + 1) (dv : v.i 52 = B.i 52) (fB : fr V ≤ fr B) (fv : fr B + 1 ≤ fr v) (d9 : deI B ≤ 250) : PCE c0 V B w := by
  intro f C hA hC h o lv rs hx
  have f9 := iv.1.f0
  have cv := iv.cd
  have le := k2.2.1.1
  have ek : ((cdI v).toNat : Int) = cdI v := Int.toNat_of_nonneg cv.1
  obtain ⟨A1, C1⟩ := AG.mid hA hC (KP.rf t B) k2 kw iv.tn gw
  have hxB := hx.arm (c0 := c0) dB fB (by omega) d9
  have c1 := te f C A1 C1 h o lv _ hxB
  obtain ⟨p1, p2, p3, p4⟩ := hA.cell (k := (cdI v).toNat) (o := 30) (x := w.a 22 (cdI v).toNat) (by omega) (by omega) w21 rfl (by decide)
  have hx2 := hx.2.1
  have c30 : COD f C (cdI v).toNat (h + 1) o lv (ARM c0 h o lv :: rs) (fun g => ENB V w f g lv (ARM c0 h o lv :: rs)) := by
    refine COD.ins (hxB.up (s1 := v) (h + 1) dv (by omega) (by omega) (by omega)) p4 (fun g _ hE => ⟨okJ_30 (c := (h + 1, o, lv, false, ARM c0 h o lv :: rs)) p1 ⟨ARM c0 h o lv, rs, rfl, rfl, rfl⟩, hE.1 _ (by omega)⟩)
  have cc : COD f C (cdI B) h o lv (ARM c0 h o lv :: rs) (fun g => ENB V w f g lv (ARM c0 h o lv :: rs)) := COD.seq c1.cod c30 (fun g _ hE => hE) (fun g _ hE hF => ⟨hE.mid kV B38 (by omega), by rw [ek] at hF; exact hF⟩)
  obtain ⟨S, hS⟩ := cc
  exact ⟨S, fun g h1 h2 h3 => hS g h1 h2 h3⟩
/-- an arm that is a block -/
theorem PCE.blk {t c0 γ0 : Nat} {V B v w : RS} (ts : TS B v) (kV : KP t V B) (k2 : KP t B v) (s2 : SAME B v) (iv : INV v) (kw : KP t v (w.setI 38 (v.i 38))) (gw : goI w ≤ goI v) (cw : cdI w = cdI v) (B38 : B.i 38 = V.i 38) (dB : deI B = deI V + 1) (fB : fr V ≤ fr B) (f9 : fr B ≤ 900) (d9 : deI B ≤ 250) (nr : ¬ v.i 75 = 1) (g0 : goI B = (γ0 : Int) + 1) (B44 : B.a 44 γ0 = 3) (B47 : gv B 47 γ0 = deI B) : PCE c0 V B w := by
  intro f C hA hC h o lv rs hx
  have cv := iv.cd
  have le := k2.2.1.1
  have kg := k2.2.2.2.2.2.2.1
  have hA' : AG0 B (w.setI 38 (v.i 38)) f := hA.i38 _
  have hC' : AGC B (w.setI 38 (v.i 38)) C := hC
  obtain ⟨A1, C1⟩ := AG.mid hA' hC' (KP.rf t B) k2 kw iv.tn gw
  have hxB := hx.arm (c0 := c0) dB fB f9 d9
  have h1 := hx.1
  have hyB : YE B (ARM c0 h o lv :: rs) := by
    intro γ a1 a2 a3
    have e : γ = γ0 := by
      by_cases q : γ = γ0
      · exact q
      · exact absurd B44 (a3 γ0 (by omega) (by omega))
    subst e
    refine ⟨by omega, ARM c0 h o lv, rs, ?_, rfl, by omega⟩
    unfold dA
    rw [if_pos (by omega)]
  obtain ⟨S, hS⟩ := ts f C A1 C1 h o lv _ hxB hyB
  refine ⟨S, fun g hg hT hE => hS g hg hT ⟨hE.mid kV B38 (by omega), fun q => absurd q nr, fun γ b k a1 a2 a3 => ?_⟩⟩
  have gv' : goI v = goI B := s2.go
  have e44 : v.a 44 γ0 = 3 := by rw [kg.2.1 γ0 (by omega)]; exact B44
  by_cases q : γ = γ0
  · subst q; exact absurd e44 a1.2.1
  · exact absurd e44 (a1.2.2 γ0 (by have := a1.1; omega) (by omega))
/-- a switch that answers -/
theorem TE.arms {t : Nat} {s A V w W : RS} {L : List Nat} (hI : INV s) (kA : KP t s A) (cA : cdI A = cdI s) (A38 : A.i 38 = s.i 38) (A52 : A.i 52 = s.i 52) (fA : fr s + 1 ≤ fr A) (te : TE A V) (k1 : KP t A V) (i1 : INV V) (d1 : V.i 52 = s.i 52) (f1 : fr A + 1 ≤ fr V) (gV : goI V = goI s) (V38 : V.i 38 = s.i 38) (kV : KP t V w) (tsa : TSA L L (cdI V).toNat V w) (w21 : w.a 21 (cdI V).toNat = 29) (lt : cdI V + 1 ≤ cdI w) (iw : INV w) (hch : ENCH w (gv w 22 (cdI V).toNat) L) (hL : ∀ j ∈ L, enI V ≤ (j : Int) ∧ (j : Int) < enI w ∧ cdI V + 1 ≤ gv w 26 j) (hdf : ∃ j ∈ L, ¬ w.a 28 j = 0) (he : EQT w W) (hchn : CHN w W) (gW : goI W = goI s) (gw : goI s ≤ goI w) (cW : cdI W = cdI w) (W2 : ∀ k : Nat, W.a 21 k = w.a 21 k ∧ W.a 22 k = w.a 22 k ∧ (k ≠ (cdI V).toNat → W.a 23 k = w.a 23 k)) (W23 : (W.a 23 (cdI V).toNat).toInt = cdI W) (hse : seI V ≤ seI W) (w18 : W.i 18 = w.i 18) (wf : ∀ k : Nat, 64 ≤ k → k ≤ 73 → bel k t w W) : TE s W := by
  intro f C hA hC h o lv rs hx
  have cs := hI.cd
  have c1' := i1.cd
  have cw' := iw.cd
  have fv1 := i1.1.f0
  have fw1 := iw.1.f0
  have le1 := k1.2.1.1
  have tw := iw.2.2.2.1
  have ek : ((cdI V).toNat : Int) = cdI V := Int.toNat_of_nonneg c1'.1
  have hx2 := hx.2.1
  have ksV : KP t s V := kA.tr k1 (Nat.le_refl _)
  have kVW : KP t V W := kV.fin he hchn (by omega) (by omega) hse (fun z => by rw [w18]; exact z) (fun k hk => ⟨(W2 k).1, (W2 k).2.1, (W2 k).2.2 (by omega)⟩) wf
  have L1 : LAT noZ A V W := (LAT.rf noZ A V).kp kVW i1.tn (by omega)
  obtain ⟨A1, C1⟩ := L1.use hA hC kA k1
  have enW : enI W = enI w := he.en
  have en0 : 0 ≤ enI s := hI.2.2.2.2.2.2.1.1
  have ken : enI s ≤ enI V := ksV.2.2.1.1
  have nw2 := iw.2.2.2.2.2.2.1
  have aE : ∀ k : Nat, 24 ≤ k → k < 64 → W.a k = w.a k := fun k a b => he.1 k (Or.inr a) (Or.inl b)
  have opf : ∀ k, OPN W k → OPN w k := fun k q => OPN.fin tw.1.1 he hchn (by omega) q
  have AZ : AGZ (ZG (cdI V).toNat L) V w f := by
    obtain ⟨a1, a2, a3, a4, a5, a6, a7, a8⟩ := hA
    have q1 := ksV.2.1.1
    have q3 := ksV.2.2.2.1.1
    have q4 := ksV.2.2.2.2.1.1
    have e3 := he.tt
    have e4 := he.ca
    refine ⟨by omega, by omega, by omega, by rw [← he.i3]; exact a4, fun k k1 k2' => ?_, fun k k1 k2' => ?_, fun k k1 k2' _ => ?_, fun k k1 k2' => ?_⟩
    · obtain ⟨b1, b2, b3⟩ := a5 k (by omega) (by omega)
      exact ⟨b1.trans (W2 k).1, fun z => ⟨b2.trans ((W2 k).2.2 (fun e => z (Or.inl ⟨rfl, e⟩))), fun q => (b3 (fun y => q (opf k y))).trans (W2 k).2.1⟩⟩
    · obtain ⟨b1, b2, b3⟩ := a6 k (by omega) (by omega)
      rw [aE 26 (by omega) (by omega)] at b1
      rw [aE 27 (by omega) (by omega)] at b2
      rw [aE 28 (by omega) (by omega)] at b3
      exact ⟨b1, b3, fun _ => b2⟩
    · obtain ⟨b1, b2, b3⟩ := a7 k (by omega) (by omega)
      rw [aE 30 (by omega) (by omega)] at b1
      rw [aE 31 (by omega) (by omega)] at b2
      rw [aE 32 (by omega) (by omega)] at b3
      exact ⟨b1, b2, b3⟩
    · obtain ⟨b1, b2, b3⟩ := a8 k (by omega) (by omega)
      rw [aE 35 (by omega) (by omega)] at b1
      rw [aE 36 (by omega) (by omega)] at b2
      rw [aE 37 (by omega) (by omega)] at b3
      exact ⟨b1, b2, fun _ => b3⟩
  have CZ : AGC V w C := hC.mid ksV kV (by rw [he.sl]; exact Int.le_refl _) (by rw [he.ca]; exact Int.le_refl _) (fun j _ => he.g (by omega) (by omega) j) (fun j j1 j2 => by rw [he.ca] at j2; omega)
  obtain ⟨S1, z1⟩ := tsa f C AZ CZ h o lv rs (hx.up h d1 (by omega) (by omega) (by omega))
  have c1 := te f C A1 C1 h o lv rs (hx.up h A52 (by omega) (by omega) (by omega))
  obtain ⟨p1, p2, p3, p4⟩ := hA.cell (k := (cdI V).toNat) (o := 29) (x := w.a 22 (cdI V).toNat) (by have := ksV.2.1.1; omega) (by omega) (by rw [(W2 _).1]; exact w21) (W2 _).2.1 (by decide)
  have p3 : gv f 23 (cdI V).toNat = cdI W := by
    rw [p3]; exact W23
  have hchf : ENCH f (gv f 22 (cdI V).toNat) L := by
    have e : gv f 22 (cdI V).toNat = gv w 22 (cdI V).toNat := p2
    rw [e]
    refine hch.of (fun j hj => ?_)
    have := hL j hj
    unfold gv
    rw [(hA.2.2.2.2.2.1 j (by omega) (by omega)).2.1, aE 27 (by omega) (by omega)]
  have g26 : ∀ j ∈ L, gv f 26 j = gv w 26 j := fun j hj => by
    have := hL j hj
    unfold gv
    rw [(hA.2.2.2.2.2.1 j (by omega) (by omega)).1, aE 26 (by omega) (by omega)]
  have len : L.length ≤ 500 := nd_len 500 L hch.nd (fun j hj => by have := hL j hj; omega)
  have enf := hA.2.1
  have cdf := hA.1
  have xlt : gv f 22 (cdI V).toNat < enI f := by
    cases L with
    | nil => have q : gv f 22 (cdI V).toNat < 0 := hchf; omega
    | cons j L => have q := hchf.1; have := hL j (List.mem_cons_self ..); omega
  have c29 : COD f C (cdI V) (h + 1) o lv rs (fun g => ENB s W f g lv rs ∧ FL f g lv (cdI W) (cdI W) (h + 1) o rs) := by
    refine ⟨fun k c => S1 k c ∨ (k = (cdI V).toNat ∧ c = (h + 1, o, lv, false, rs)), fun g hg hT hE => ?_⟩
    have rec1 : ∀ k : Nat, (k : Int) < cdI w → recOK f g k lv (ARM (cdI V).toNat h o lv) rs := fun k hk => by
      refine ⟨by show h ≤ 1300; omega, by show o ≤ 450; have := hx.2.2.1; omega, Or.inr (Or.inr (Or.inl ⟨rfl, by show (((cdI V).toNat : Nat) : Int) < cdI f; omega, ?_⟩))⟩
      show FL f g lv ((k : Int) + 1) (gv f 23 (cdI V).toNat) (h + 1) o rs
      rw [p3]
      exact hE.2.mono (Nat.le_refl _) (by omega)
    obtain ⟨fl, gd⟩ := z1 g hg (fun k c q => hT k c (Or.inl q)) ⟨fun k hk => ⟨rec1 k hk, hE.1.1 k (by omega)⟩, (hE.1.mid ksV V38 (u1 := w) (by omega) : ENB V w f g lv rs).2⟩
    refine ⟨⟨by omega, by omega, fun _ => ⟨(h + 1, o, lv, false, rs), hT _ _ (Or.inr ⟨rfl, rfl⟩), rfl, Nat.le_refl _, rfl, rfl, Or.inr ⟨Nat.le_refl _, Int.le_refl _⟩⟩⟩, fun k c q => ?_⟩
    rcases q with q | ⟨q1, q2⟩
    · exact gd k c q
    subst q1
    subst q2
    have hEn : ∀ j : Nat, entryIn f j 500 (gv f 22 (cdI V).toNat) → FL f g lv (((cdI V).toNat : Int) + 1) (gv f 26 j) h o ((3, (cdI V).toNat, 0, h, o, lv, false, false) :: rs) := fun j hj => by
      have jL := hchf.inn hj
      rw [g26 j jL]
      exact (fl j jL).mono (Nat.le_refl _) (by have := (hL j jL).2.2; omega)
    have hDf : ∃ j : Nat, entryIn f j 500 (gv f 22 (cdI V).toNat) ∧ ¬ gv f 28 j = 0 := by
      obtain ⟨j, j1, j2⟩ := hdf
      refine ⟨j, hchf.mem j1 len, fun q => j2 ?_⟩
      have := hL j j1
      have e : f.a 28 j = w.a 28 j := by rw [(hA.2.2.2.2.2.1 j (by omega) (by omega)).2.2, aE 28 (by omega) (by omega)]
      unfold gv at q
      rw [e] at q
      exact Int32.toInt_inj.mp (by rw [z_t0]; exact q)
    exact (hx.up (s1 := V) (h + 1) d1 (by omega) (by omega) (by omega)).good (fun q => by cases q) (okJ_29 (c := (h + 1, o, lv, false, rs)) p1 ⟨by show 1 ≤ h + 1; omega, xlt, hEn, hDf⟩) (hE.1.1 _ (by omega))
  rw [← cA]
  exact c1.seq c29 (fun g _ hE => hE) (fun g _ hE hF => ⟨hE.1.mid kA A38 (by omega), hF⟩)
