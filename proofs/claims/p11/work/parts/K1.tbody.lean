/-! reading: try: body and catches, typed -/
theorem OPS.of {w f : RS} : ∀ {n : Nat} {x : Int}, OPS n w x → 0 ≤ x → (∀ k : Nat, x ≤ k → (k : Int) < x + n → w.a 21 k = 32 → f.a 21 k = w.a 21 k ∧ f.a 22 k = w.a 22 k) → OPS n f x
  | 0, _, _, _, _ => True.intro
  | n + 1, x, ⟨p1, p2, p3⟩, h0, hk => by
    have push : ((n + 1 : Nat) : Int) = (n : Int) + 1 := by omega
    rw [push] at hk
    have e : w.a 21 x.toNat = 32 := by
      have t32 : (32 : Int32).toInt = 32 := by decide
      exact Int32.toInt_inj.mp (by rw [t32]; exact p1)
    obtain ⟨q1, q2⟩ := hk x.toNat (by omega) (by omega) e
    have g1 : gv f 21 x.toNat = gv w 21 x.toNat := by unfold gv; rw [q1]
    have g2 : gv f 22 x.toNat = gv w 22 x.toNat := by unfold gv; rw [q2]
    exact ⟨by rw [g1]; exact p1, by rw [g2]; exact p2, OPS.of p3 (by omega) (fun k k1 k2 => hk k (by omega) (by omega))⟩
theorem OPN.n36 {w : RS} {k : Nat} (h : OPN w k) : w.a 21 k = 36 := by
  obtain ⟨γ, b, M, x1, x2, x3⟩ := h
  exact x2.op k x3
/-- goals lie no deeper than the statement -/
theorem INV.g47 {s w : RS} (hI : INV s) (hg : goI w = goI s) (h47 : bel 47 (goI s) s w) {rs : List Rec} (hr : (rs.length : Int) = deI s) : ∀ γ : Nat, (γ : Int) < goI w → (gv w 47 γ).toNat ≤ rs.length := fun γ hγ => by
  have := hI.2.2.2.1.2.2.2.2.2.2.1 γ (by omega)
  have e : gv w 47 γ = gv s 47 γ := by unfold gv; rw [h47 γ (by omega)]
  omega
theorem TRX.body {t id n : Nat} {s B v w : RS} {x : Int} (hI : INV s) (kB : KP t s B) (x0 : 0 ≤ x) (xs : cdI s ≤ x) (cB : cdI B = x + n) (hO : OPS n w x) (ts : TS B v) (k2 : KP t B v) (s2 : SAME B v) (iv : INVW v) (kw : KP t v w) (sw : SAME v w) (cw : cdI w = cdI v + 1) (w21 : w.a 21 (cdI v).toNat = 33) (B38 : B.i 38 = s.i 38) (dB : deI B = deI s + 1) (gB : goI B = goI s) (fB : fr s + 2 * n ≤ fr B) (f9 : fr B ≤ fr v) (d9 : deI B ≤ 250) (tid : (id : Int) < trI B) : TRX [] id x (cdI w) (v.i 75 = 1) s w := by
  intro f C hA hC h o lv rs ps ek hx hy
  have fv := iv.1.f0
  have cv := iv.cd
  have le := k2.2.1.1
  have lew := kw.2.1.1
  have ek' : ((cdI v).toNat : Int) = cdI v := Int.toNat_of_nonneg cv.1
  have hx1 := hx.1
  have hx2 := hx.2.1
  have hx3 := hx.2.2.1
  have AV : AGZ (ZT id []) s v f := hA.pre kw iv.tn (by rw [sw.go]; exact Int.le_refl _)
  have AB : AG0 B v f := AV.inn kB (fun j _ q => by
    rcases q with q | q
    · exact absurd q.1 (by decide)
    · exact absurd q.1 (by decide)) (fun j _ q => by
    rcases q with q | q
    · exact absurd q.1 (by decide)
    · exact absurd q.1 (by decide)) (fun j hj q => by
    rcases q with q | q
    · have := q.2; omega
    · exact absurd q.1 (by decide)) (fun j _ q => by
    rcases q with q | q
    · exact absurd q.1 (by decide)
    · exact absurd q.2 List.not_mem_nil)
  have kh := kw.2.2.2.2.1
  have CB : AGC B v C := hC.mid kB k2 kw.2.2.2.2.2.1.2.1 kh.1 (fun j hj => by unfold gv; rw [kh.2.2.2.1 j hj]) (fun j j1 j2 => (kh.2.2.2.2.2 j j1 j2).1)
  have kg := kB.2.2.2.2.2.2.1
  have gw : goI w = goI s := by rw [sw.go, s2.go, gB]
  have ksw : KP t s w := (kB.tr k2 (Nat.le_refl _)).tr kw (Nat.le_refl _)
  have hd := hI.g47 gw ksw.2.2.2.2.2.2.1.2.2.1 hx1
  have hds : ∀ γ : Nat, (γ : Int) < goI s → gv s 47 γ ≤ (rs.length : Int) := fun γ hγ => by
    have := hI.2.2.2.1.2.2.2.2.2.2.1 γ hγ; omega
  have cxo : ∀ o' : Nat, o' ≤ o + n → CX B h o' lv (TYR id h o lv 0 ps ek :: rs) := fun o' ho => hx.tr dB (by omega) (by omega) d9 (by omega) (Or.inl rfl)
  have c2 := ts f C AB CB h (o + n) lv _ (cxo _ (Nat.le_refl _)) (hy.tr gB kg.2.1 kg.2.2.1 hds)
  have a33 := hA.2.2.2.2.1 (cdI v).toNat (by omega) (by omega)
  have p1 : gv f 21 (cdI v).toNat = 33 := by
    unfold gv; rw [a33.1, w21]; decide
  have hcf := hA.1
  have ops : OPS n f x := hO.of x0 (fun k k1 k2' k3 => by
    obtain ⟨b1, b2⟩ := hA.2.2.2.2.1 k (by omega) (by omega)
    refine ⟨b1, (b2 (fun q => ?_)).2 (fun q => ?_)⟩
    · rcases q with q | q
      · exact absurd q.1 (by decide)
      · exact absurd q.1 (by decide)
    · rw [q.n36] at k3; exact absurd k3 (by decide))
  obtain ⟨E, hE0⟩ : ∃ E : Gh → Prop, E = fun g => (∀ k : Nat, (k : Int) < cdI w → recsOK f g k lv (TYR id h o lv 0 ps ek :: rs)) ∧ (∀ y : Nat, (y : Int) < seI s → (g.isC (gv s 40 y).toNat = true ↔ ¬ s.a 41 y = 0)) ∧ (v.i 75 = 1 → ENDC f g id h o lv rs ps ek ∧ cdI w ≤ gv f 32 id) ∧ EJT s w f g id h o lv rs ps ek := ⟨_, rfl⟩
  have env : ∀ g : Gh, E g → (v.i 75 = 1 → FL f g lv (cdI v) (cdI v) h (o + n) (TYR id h o lv 0 ps ek :: rs)) → ENS B v f h (o + n) lv (TYR id h o lv 0 ps ek :: rs) g := fun g hE hF => by
    rw [hE0] at hE
    obtain ⟨q1, q2, q3, q4⟩ := hE
    exact ⟨ENB.mid (s := s) (w := w) ⟨q1, q2⟩ kB B38 (by omega), hF, q4.ej (STG.kp kw sw.go sw.wa) iv.tn (by omega) sw.go (by omega) hd⟩
  have cB' : COD f C (x + n) h (o + n) lv (TYR id h o lv 0 ps ek :: rs) E := by
    rw [← cB]
    by_cases cr : v.i 75 = 1
    · have c33 : COD f C (cdI v).toNat h (o + n) lv (TYR id h o lv 0 ps ek :: rs) E := by
        refine COD.ins (s := B) (cxo _ (Nat.le_refl _)) (by omega) (fun g _ hE => ?_)
        rw [hE0] at hE
        obtain ⟨q1, q2, q3, q4⟩ := hE
        obtain ⟨⟨y1, y2⟩, y3⟩ := q3 cr
        refine ⟨okJ_33 (c := (h, o + n, lv, false, TYR id h o lv 0 ps ek :: rs)) p1 ⟨TYR id h o lv 0 ps ek, rs, rfl, rfl, rfl, rfl, y1, fun z => ?_⟩, q1 _ (by omega)⟩
        exact (y2 z).mono (Nat.le_refl _) (by show ((cdI v).toNat : Int) + 1 ≤ gv f 32 id; omega)
      exact COD.seq c2 c33 (fun g _ hE => hE) (fun g _ hE hF => env g hE (fun _ => by rw [ek'] at hF; exact hF))
    · exact c2.imp (fun g _ hE => env g hE (fun q => absurd q cr))
  have cc := COD.ops (s := B) (E := E) n x o ops x0 (by omega) cxo (fun g _ hE k hk => by rw [hE0] at hE; exact hE.1 k (by omega)) cB'
  obtain ⟨S, hS⟩ := cc
  exact ⟨S, fun _ _ => False, fun g hg hT _ q2 q3 q4 q5 => ⟨⟨fun j hj => absurd hj List.not_mem_nil, fun _ _ q => q.elim⟩, fun q1 => hS g hg hT (by rw [hE0]; exact ⟨q1, q3, q4, q5⟩)⟩⟩
/-- catch rows NL are laid, a name is told -/
def CATR (id : Nat) (CL NL : List Nat) (u U : RS) : Prop := (∀ j : Nat, (j < 10 ∨ 20 ≤ j) → j ≠ 33 → j ≠ 38 → j ≠ 42 → j ≠ 63 → U.i j = u.i j) ∧ (∀ k : Nat, k < 64 → k ≠ 30 → ¬ (34 ≤ k ∧ k ≤ 37) → k ≠ 40 → k ≠ 41 → U.a k = u.a k) ∧ (∀ j : Nat, j ≠ id → U.a 30 j = u.a 30 j) ∧ (∀ k j : Nat, 34 ≤ k → k ≤ 36 → (j : Int) < caI u → U.a k j = u.a k j) ∧ (∀ j : Nat, (j : Int) < caI u → j ∉ CL → U.a 37 j = u.a 37 j) ∧ caI u ≤ caI U ∧ (∀ j ∈ NL, caI u ≤ (j : Int) ∧ (j : Int) < caI U) ∧ (∀ j : Nat, caI u ≤ j → (j : Int) < caI U → j ∈ NL ∧ gv U 35 j = cdI u ∧ gv U 36 j = slI u) ∧ slI U = slI u + 1
theorem CATR.cd {id : Nat} {CL NL : List Nat} {u U : RS} (h : CATR id CL NL u U) : cdI U = cdI u := by unfold cdI; rw [h.1 20 (by omega) (by omega) (by omega) (by omega) (by omega)]
theorem CATR.go {id : Nat} {CL NL : List Nat} {u U : RS} (h : CATR id CL NL u U) : goI U = goI u := by unfold goI; rw [h.1 43 (by omega) (by omega) (by omega) (by omega) (by omega)]
theorem CATR.hd {id : Nat} {CL NL : List Nat} {u U : RS} (h : CATR id CL NL u U) (b : Bool) (γ : Nat) : hd U b γ = hd u b γ := by
  cases b
  · exact gv_of (h.2.1 49 (by omega) (by omega) (by omega) (by omega) (by omega)) γ
  · exact gv_of (h.2.1 48 (by omega) (by omega) (by omega) (by omega) (by omega)) γ
theorem CATR.isch {id : Nat} {CL NL : List Nat} {u U : RS} (h : CATR id CL NL u U) {x : Int} {M : List Nat} (hi : ISCH u x M) : ISCH U x M := hi.of (fun y _ => ⟨by rw [h.2.1 21 (by omega) (by omega) (by omega) (by omega) (by omega)], by rw [h.2.1 22 (by omega) (by omega) (by omega) (by omega) (by omega)]⟩)
theorem CATR.opn {id : Nat} {CL NL : List Nat} {u U : RS} (h : CATR id CL NL u U) {k : Nat} (ho : OPN U k) : OPN u k := by
  obtain ⟨γ, b, M, x1, x2, x3⟩ := ho
  rw [h.hd] at x2
  exact ⟨γ, b, M, by rw [← h.go]; exact x1, x2.of (fun y _ => ⟨by rw [h.2.1 21 (by omega) (by omega) (by omega) (by omega) (by omega)], by rw [h.2.1 22 (by omega) (by omega) (by omega) (by omega) (by omega)]⟩), x3⟩
theorem STG.cat {id : Nat} {CL NL : List Nat} {u U : RS} (h : CATR id CL NL u U) : STG u U := by
  have e9 : waI U = waI u := by unfold waI; rw [h.1 56 (by omega) (by omega) (by omega) (by omega) (by omega)]
  have e10 : peI U = peI u := by unfold peI; rw [h.1 59 (by omega) (by omega) (by omega) (by omega) (by omega)]
  have ea : ∀ (k j : Nat), k < 64 → k ≠ 30 → ¬ (34 ≤ k ∧ k ≤ 37) → k ≠ 40 → k ≠ 41 → U.a k j = u.a k j := fun k j h1 h2 h3 h4 h5 => by rw [h.2.1 k h1 h2 h3 h4 h5]
  refine ⟨by rw [h.cd]; exact Int.le_refl _, by rw [h.go]; exact Int.le_refl _, fun γ _ => ⟨ea 44 γ (by omega) (by omega) (by omega) (by omega) (by omega), ea 47 γ (by omega) (by omega) (by omega) (by omega) (by omega), fun q => by rw [ea 50 γ (by omega) (by omega) (by omega) (by omega) (by omega)]; exact q, fun q => by rw [ea 51 γ (by omega) (by omega) (by omega) (by omega) (by omega)]; exact q⟩, fun γ b M hγ hI hM => ⟨[], by rw [h.hd]; exact h.isch hI, fun x hx => absurd hx List.not_mem_nil⟩, ⟨by rw [e10]; exact Int.le_refl _, fun j _ => ea 60 j (by omega) (by omega) (by omega) (by omega) (by omega), fun j _ => ea 61 j (by omega) (by omega) (by omega) (by omega) (by omega), fun j _ => ea 62 j (by omega) (by omega) (by omega) (by omega) (by omega)⟩, e9, fun j _ => ea 57 j (by omega) (by omega) (by omega) (by omega) (by omega)⟩
theorem AGZ.cat {id : Nat} {CL NL : List Nat} {s u U f : RS} (hA : AGZ (ZT id (CL ++ NL)) s U f) (h : CATR id CL NL u U) : AGZ (ZT id CL) s u f := by
  obtain ⟨a1, a2, a3, a4, a5, a6, a7, a8⟩ := hA
  have ec := h.cd
  have een : enI U = enI u := by unfold enI; rw [h.1 24 (by omega) (by omega) (by omega) (by omega) (by omega)]
  have e3 : trI U = trI u := by unfold trI; rw [h.1 29 (by omega) (by omega) (by omega) (by omega) (by omega)]
  have e4 := h.2.2.2.2.2.1
  have ea : ∀ k : Nat, k < 64 → k ≠ 30 → ¬ (34 ≤ k ∧ k ≤ 37) → k ≠ 40 → k ≠ 41 → U.a k = u.a k := h.2.1
  refine ⟨by omega, by omega, by omega, by rw [← h.1 3 (by omega) (by omega) (by omega) (by omega) (by omega)]; exact a4, fun k k1 k2 => ?_, fun k k1 k2 => ?_, fun k k1 k2 z => ?_, fun k k1 k2 => ?_⟩
  · obtain ⟨b1, b2⟩ := a5 k k1 (by omega)
    refine ⟨b1.trans (by rw [ea 21 (by omega) (by omega) (by omega) (by omega) (by omega)]), fun _ => ?_⟩
    obtain ⟨b3, b4⟩ := b2 (fun q => by
      rcases q with q | q
      · exact absurd q.1 (by decide)
      · exact absurd q.1 (by decide))
    exact ⟨b3.trans (by rw [ea 23 (by omega) (by omega) (by omega) (by omega) (by omega)]), fun q => (b4 (fun y => q (h.opn y))).trans (by rw [ea 22 (by omega) (by omega) (by omega) (by omega) (by omega)])⟩
  · obtain ⟨b1, b2, b3⟩ := a6 k k1 (by omega)
    rw [ea 26 (by omega) (by omega) (by omega) (by omega) (by omega)] at b1
    rw [ea 28 (by omega) (by omega) (by omega) (by omega) (by omega)] at b2
    rw [ea 27 (by omega) (by omega) (by omega) (by omega) (by omega)] at b3
    exact ⟨b1, b2, fun _ => b3 (fun q => by
      rcases q with q | q
      · exact absurd q.1 (by decide)
      · exact absurd q.1 (by decide))⟩
  · have nk : k ≠ id := fun q => z (Or.inl ⟨rfl, q⟩)
    obtain ⟨b1, b2, b3⟩ := a7 k k1 (by omega) (fun q => by
      rcases q with q | q
      · exact nk q.2
      · exact absurd q.1 (by decide))
    rw [ea 31 (by omega) (by omega) (by omega) (by omega) (by omega)] at b2
    rw [ea 32 (by omega) (by omega) (by omega) (by omega) (by omega)] at b3
    exact ⟨b1.trans (h.2.2.1 k nk), b2, b3⟩
  · obtain ⟨b1, b2, b3⟩ := a8 k k1 (by omega)
    refine ⟨b1.trans (h.2.2.2.1 35 k (by omega) (by omega) k2), b2.trans (h.2.2.2.1 36 k (by omega) (by omega) k2), fun z => ?_⟩
    have nk : k ∉ CL := fun q => z (Or.inr ⟨rfl, q⟩)
    refine (b3 (fun q => ?_)).trans (h.2.2.2.2.1 k k2 nk)
    rcases q with q | q
    · exact absurd q.1 (by decide)
    · rcases List.mem_append.mp q.2 with q | q
      · exact nk q
      · have := (h.2.2.2.2.2.2.1 k q).1; omega
theorem AGC.cat {id : Nat} {CL NL : List Nat} {s u U : RS} {C : Nat → Bool} (hC : AGC s U C) (h : CATR id CL NL u U) (hca : caI s ≤ caI u) : AGC s u C := by
  intro x h1 h2
  have hs := h.2.2.2.2.2.2.2.2
  have e4 := h.2.2.2.2.2.1
  rw [hC x h1 (by omega)]
  constructor
  · rintro ⟨j, j1, j2, j3⟩
    by_cases q : (j : Int) < caI u
    · exact ⟨j, j1, q, by unfold gv at *; rw [← h.2.2.2.1 36 j (by omega) (by omega) q]; exact j3⟩
    · have := (h.2.2.2.2.2.2.2.1 j (by omega) j2).2.2
      omega
  · rintro ⟨j, j1, j2, j3⟩
    exact ⟨j, j1, by omega, by unfold gv at *; rw [h.2.2.2.1 36 j (by omega) (by omega) j2]; exact j3⟩
theorem TBS.b38 (w : RS) (x : Int32) : TBS (w.setI 38 x) w := ⟨⟨fun _ _ _ => rfl, rfl, fun _ _ h _ _ _ _ => (if_neg h).symm⟩, fun _ _ _ => rfl, rfl, rfl⟩
theorem TRX.catch {t id : Nat} {CL NL : List Nat} {s u B v w : RS} {x e : Int} {ρ ρ' : Prop} (h1 : TRX CL id x e ρ s u) (hI : INV s) (iu : INVW u) (ksu : KP t s u) (cat : CATR id CL NL u B) (iB : INVW B) (kB : KP t s B) (nB : SNW s B) (ts : TS B v) (k2 : KP t B v) (s2 : SAME B v) (iv : INVW v) (kw : KP t v (w.setI 38 (v.i 38))) (gw : w.i 43 = v.i 43) (ww : w.i 56 = v.i 56) (cw : cdI w = cdI v + 1) (w21 : w.a 21 (cdI v).toNat = 34) (dB : deI B = deI s + 1) (gB : goI B = goI s) (fB : fr s ≤ fr B) (f9 : fr B ≤ 900) (d9 : deI B ≤ 250) (tid : (id : Int) < trI B) (hCL : ∀ j ∈ CL, (j : Int) < caI u) (ec : e ≤ cdI u) (r1 : v.i 75 = 1 → ρ') (r2 : ρ → ρ') : TRX (CL ++ NL) id x e ρ' s w := by
  intro f C hA hC h o lv rs ps ek hx hy
  have fv := iv.1.f0
  have cv := iv.cd
  have le := k2.2.1.1
  have ek' : ((cdI v).toNat : Int) = cdI v := Int.toNat_of_nonneg cv.1
  have hx1 := hx.1
  have hx2 := hx.2.1
  have hx3 := hx.2.2.1
  have hA' : AGZ (ZT id (CL ++ NL)) s (w.setI 38 (v.i 38)) f := hA.i38 _
  have hC' : AGC s (w.setI 38 (v.i 38)) C := hC
  have gwv : goI (w.setI 38 (v.i 38)) = goI v := by show goI w = goI v; unfold goI; rw [gw]
  have wwv : waI (w.setI 38 (v.i 38)) = waI v := by show waI w = waI v; unfold waI; rw [ww]
  have gvB : goI v = goI B := s2.go
  have kBw : KP t B (w.setI 38 (v.i 38)) := k2.tr kw (Nat.le_refl _)
  have AV : AGZ (ZT id (CL ++ NL)) s v f := hA'.pre kw iv.tn (by omega)
  have ABz : AGZ (ZT id (CL ++ NL)) s B f := hA'.pre kBw iB.tn (by omega)
  have kh := kw.2.2.2.2.1
  have khB := kBw.2.2.2.2.1
  have cc := cat.2.2.2.2.2.1
  have CB' : AGC s B C := hC'.mid (KP.rf t s) kB kBw.2.2.2.2.2.1.2.1 khB.1 (fun j hj => by unfold gv; rw [khB.2.2.2.1 j hj]) (fun j j1 j2 => (khB.2.2.2.2.2 j j1 j2).1)
  have CV : AGC s v C := hC'.mid (KP.rf t s) (kB.tr k2 (Nat.le_refl _)) kw.2.2.2.2.2.1.2.1 kh.1 (fun j hj => by unfold gv; rw [kh.2.2.2.1 j hj]) (fun j j1 j2 => (kh.2.2.2.2.2 j j1 j2).1)
  have Au : AGZ (ZT id CL) s u f := ABz.cat cat
  have Cu : AGC s u C := CB'.cat cat ksu.2.2.2.2.1.1
  have AB : AG0 B v f := AV.inn kB (fun j _ q => by
    rcases q with q | q
    · exact absurd q.1 (by decide)
    · exact absurd q.1 (by decide)) (fun j _ q => by
    rcases q with q | q
    · exact absurd q.1 (by decide)
    · exact absurd q.1 (by decide)) (fun j hj q => by
    rcases q with q | q
    · have := q.2; omega
    · exact absurd q.1 (by decide)) (fun j hj q => by
    rcases q with q | q
    · exact absurd q.1 (by decide)
    · rcases List.mem_append.mp q.2 with q | q
      · have := hCL j q; omega
      · have := (cat.2.2.2.2.2.2.1 j q).2; omega)
  have CB : AGC B v C := CV.mid kB k2 (Int.le_refl _) (Int.le_refl _) (fun _ _ => rfl) (fun j j1 j2 => by omega)
  have kg := kB.2.2.2.2.2.2.1
  have gws : goI w = goI s := by have : goI (w.setI 38 (v.i 38)) = goI w := rfl; omega
  have ksw : KP t s (w.setI 38 (v.i 38)) := kB.tr kBw (Nat.le_refl _)
  have hd := hI.g47 (w := w) gws ksw.2.2.2.2.2.2.1.2.2.1 hx1
  have hds : ∀ γ : Nat, (γ : Int) < goI s → gv s 47 γ ≤ (rs.length : Int) := fun γ hγ => by
    have := hI.2.2.2.1.2.2.2.2.2.2.1 γ hγ; omega
  have cxB : CX B h o lv (TYR id h o lv 1 ps ek :: rs) := hx.tr dB fB f9 d9 (by omega) (Or.inr rfl)
  have c2 := ts f C AB CB h o lv _ cxB (hy.tr gB kg.2.1 kg.2.2.1 hds)
  have cdB := cat.cd
  have a34 := hA.2.2.2.2.1 (cdI v).toNat (by have := kB.2.1.1; omega) (by omega)
  have p1 : gv f 21 (cdI v).toNat = 34 := by
    unfold gv; rw [a34.1, w21]; decide
  have hcf := hA.1
  obtain ⟨E, hE0⟩ : ∃ E : Gh → Prop, E = fun g => (∀ k : Nat, (k : Int) < cdI w → recsOK f g k lv (TYR id h o lv 1 ps ek :: rs)) ∧ (∀ y : Nat, (y : Int) < seI s → (g.isC (gv s 40 y).toNat = true ↔ ¬ s.a 41 y = 0)) ∧ (ρ' → ENDC f g id h o lv rs ps ek ∧ cdI w ≤ gv f 32 id) ∧ EJT s w f g id h o lv rs ps ek := ⟨_, rfl⟩
  have stgv : STG v w := (STG.kp (W := w.setI 38 (v.i 38)) kw gwv wwv).tr (STG.tbs (TBS.b38 w _))
  have env : ∀ g : Gh, g.isC = C → E g → (v.i 75 = 1 → FL f g lv (cdI v) (cdI v) h o (TYR id h o lv 1 ps ek :: rs)) → ENS B v f h o lv (TYR id h o lv 1 ps ek :: rs) g := fun g hg hE hF => by
    rw [hE0] at hE
    obtain ⟨q1, q2, q3, q4⟩ := hE
    exact ⟨ENB.nx (s := s) (w := v) ⟨fun k hk => q1 k (by omega), q2⟩ hg CV kB k2 nB iB.2.2.2.1 hI.2.2.2.1, hF, q4.ej stgv iv.tn kB.2.1.1 (by omega) (by omega) hd⟩
  have cB' : COD f C (cdI B) h o lv (TYR id h o lv 1 ps ek :: rs) E := by
    by_cases cr : v.i 75 = 1
    · have c34 : COD f C (cdI v).toNat h o lv (TYR id h o lv 1 ps ek :: rs) E := by
        refine COD.ins (s := B) cxB (by omega) (fun g _ hE => ?_)
        rw [hE0] at hE
        obtain ⟨q1, q2, q3, q4⟩ := hE
        obtain ⟨⟨y1, y2⟩, y3⟩ := q3 (r1 cr)
        refine ⟨okJ_34 (c := (h, o, lv, false, TYR id h o lv 1 ps ek :: rs)) p1 ⟨TYR id h o lv 1 ps ek, rs, rfl, rfl, rfl, rfl, y1, fun z => ?_⟩, q1 _ (by omega)⟩
        exact (y2 z).mono (Nat.le_refl _) (by show ((cdI v).toNat : Int) + 1 ≤ gv f 32 id; omega)
      exact COD.seq c2 c34 (fun g _ hE => hE) (fun g hg hE hF => env g hg hE (fun _ => by rw [ek'] at hF; exact hF))
    · exact c2.imp (fun g hg hE => env g hg hE (fun q => absurd q cr))
  obtain ⟨S0, S1, z1⟩ := h1 f C Au Cu h o lv rs ps ek hx hy
  obtain ⟨S2, z2⟩ := cB'
  have stgu : STG u w := ((STG.cat cat).tr (STG.kp k2 s2.go s2.wa)).tr stgv
  refine ⟨S0, fun k c => S1 k c ∨ S2 k c, fun g hg hT0 hT q2 q3 q4 q5 => ?_⟩
  obtain ⟨f2, d2⟩ := z2 g hg (fun k c q => hT k c (Or.inr q)) (by rw [hE0]; exact ⟨q2, q3, q4, q5⟩)
  have ejt : EJT s u f g id h o lv rs ps ek := by
    intro γ b k a1 a2 a3
    have q := stgu.2.2.1
    have hγ : (γ : Int) < goI w := by have := a1.1; have := cat.go; omega
    have e47 : gv w 47 γ = gv u 47 γ := by unfold gv; rw [(q γ hγ).2.1]
    have acc : ACC w γ := ⟨hγ, by rw [(q γ hγ).1]; exact a1.2.1, fun δ d1 d2 => by rw [(q δ d2).1]; exact a1.2.2 δ d1 (by have := cat.go; omega)⟩
    obtain ⟨vt, j1, j2, j3⟩ := q5 γ b k acc (by rw [(q γ hγ).1]; exact a2) (a3.stg stgu iu.tn hγ)
    rw [e47] at j2 j3
    refine ⟨vt, ?_, j2, fun z y => j3 (z.stg stgu hγ) y⟩
    have := stgu.1
    rcases j1 with j1 | j1
    · exact Or.inl j1
    · exact Or.inr ⟨j1.1, by omega⟩
  obtain ⟨⟨f1', d1⟩, bd⟩ := z1 g hg hT0 (fun k c q => hT k c (Or.inl q)) (fun k hk => q2 k (by omega)) q3 (fun r => ⟨(q4 (r2 r)).1, by have := (q4 (r2 r)).2; omega⟩) ejt
  refine ⟨⟨fun j hj => ?_, fun k c q => ?_⟩, bd⟩
  · have w35 : (j : Int) < caI B → gv w 35 j = gv B 35 j := fun q => by
      unfold gv
      have e1 : w.a 35 j = B.a 35 j := khB.2.2.1 j q
      rw [e1]
    rcases List.mem_append.mp hj with q | q
    · have jl := hCL j q
      rw [w35 (by omega)]
      have e2 : gv B 35 j = gv u 35 j := by unfold gv; rw [cat.2.2.2.1 35 j (by omega) (by omega) jl]
      rw [e2]
      exact f1' j q
    · obtain ⟨n1, n2⟩ := cat.2.2.2.2.2.2.1 j q
      have n3 := (cat.2.2.2.2.2.2.2.1 j n1 n2).2.1
      rw [w35 n2, n3, ← cdB]
      exact f2
  · rcases q with q | q
    · exact d1 k c q
    · exact d2 k c q
