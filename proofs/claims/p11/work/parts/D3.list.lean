/-! reading: lists and blocks -/
/-- the tables are the same, but for how many names are seen -/
def TBS (u w : RS) : Prop := EQT u w ∧ (∀ k : Nat, 21 ≤ k → k < 24 → w.a k = u.a k) ∧ w.i 20 = u.i 20 ∧ w.i 43 = u.i 43
theorem TBL.tbs {u w : RS} (h : TBL u w) : TBS u w := ⟨⟨fun k _ h2 => h.1 k h2, h.2.1, fun j h1 h2 h3 h4 h5 h6 => h.2.2 j (by omega) h4 h5 h6⟩, fun k h1 h2 => h.1 k (by omega), h.2.2 20 (by omega) (by omega) (by omega) (by omega), h.2.2 43 (by omega) (by omega) (by omega) (by omega)⟩
theorem TBS.cd {u w : RS} (h : TBS u w) : cdI w = cdI u := by unfold cdI; rw [h.2.2.1]
theorem TBS.go {u w : RS} (h : TBS u w) : goI w = goI u := by unfold goI; rw [h.2.2.2]
theorem TBS.chn {u w : RS} (h : TBS u w) : CHN u w := fun γ b L x _ _ _ => ⟨by rw [h.2.1 21 (by omega) (by omega)], by rw [h.2.1 22 (by omega) (by omega)]⟩
theorem TBS.chn' {u w : RS} (h : TBS u w) {x : Int} {L : List Nat} (hi : ISCH w x L) : ISCH u x L := hi.of (fun y _ => ⟨by rw [h.2.1 21 (by omega) (by omega)], by rw [h.2.1 22 (by omega) (by omega)]⟩)
theorem ARV.tbs {v W : RS} (hs : TBS v W) {γ : Nat} {b : Bool} (h : ARV v γ b) : ARV W γ b := h.fin hs.1
theorem TS.tbs {s u s' u' : RS} (h : TS s u) (hs : TBL s s') (hu : TBS u u') (hdp : s'.i 52 = s.i 52) (hf : fr s' ≤ fr s) (hf9 : fr s ≤ 900) (hr : u.i 75 = 1 → u'.i 75 = 1) : TS s' u' := by
  intro f C hA hC h9 o v rs hx hy
  have e := hu.1
  have hOPN : ∀ k : Nat, OPN u' k → OPN u k := fun k ⟨γ, b, L, x1, x2, x3⟩ => ⟨γ, b, L, by rw [hu.go] at x1; exact x1, by
    rw [e.eHD] at x2
    exact hu.chn' x2, x3⟩
  have hA' : AG0 s u f := by
    obtain ⟨a1, a2, a3, a4, a5, a6, a7, a8⟩ := hA
    rw [hu.cd] at a1
    rw [e.en] at a2
    rw [e.tt] at a3
    rw [e.i3] at a4
    rw [hu.cd, hs.cd, hu.2.1 21 (by omega) (by omega), hu.2.1 22 (by omega) (by omega), hu.2.1 23 (by omega) (by omega)] at a5
    rw [e.en, hs.en, e.1 26 (by omega) (by omega), e.1 27 (by omega) (by omega), e.1 28 (by omega) (by omega)] at a6
    rw [e.tt, hs.tt, e.1 30 (by omega) (by omega), e.1 31 (by omega) (by omega), e.1 32 (by omega) (by omega)] at a7
    rw [e.ca, hs.ca, e.1 35 (by omega) (by omega), e.1 36 (by omega) (by omega), e.1 37 (by omega) (by omega)] at a8
    exact ⟨a1, a2, a3, a4, fun k k1 k2 => ⟨(a5 k k1 k2).1, (a5 k k1 k2).2.1, fun q => (a5 k k1 k2).2.2 (fun z => q (hOPN k z))⟩, a6, a7, a8⟩
  have hC' : AGC s u C := by
    intro x x1 x2
    have := hC x (by rw [hs.sl]; exact x1) (by rw [e.sl]; exact x2)
    rw [this, hs.ca, e.ca]
    constructor
    · rintro ⟨j, j1, j2, j3⟩; exact ⟨j, j1, j2, by rw [← j3, e.g (by decide) (by decide)]⟩
    · rintro ⟨j, j1, j2, j3⟩; exact ⟨j, j1, j2, by rw [← j3, e.g (by decide) (by decide)]⟩
  have hde : deI s' = deI s := by unfold deI; rw [hdp]
  have hx' : CX s h9 o v rs := by
    obtain ⟨c1, c2, c3, c4, c5, c6, c7, c8⟩ := hx
    rw [hde] at c1 c8
    exact ⟨c1, by omega, by omega, by omega, by omega, c6, hf9, c8⟩
  have hy' : YE s rs := hy.of hs.sy.go (fun j _ => by rw [hs.1 44 (by omega)]) (fun j _ => by rw [hs.1 47 (by omega)])
  have := h f C hA' hC' h9 o v rs hx' hy'
  rw [hs.cd]
  refine this.imp (fun g _ hE => ?_)
  obtain ⟨⟨e1, e2⟩, e3, e4⟩ := hE
  rw [hu.cd] at e1 e3
  refine ⟨⟨e1, fun x hx => ?_⟩, fun q => e3 (hr q), fun γ b k h1 h2 h3 => ?_⟩
  · have := e2 x (by rw [hs.se]; exact hx)
    rw [hs.g (by decide), hs.1 41 (by omega)] at this
    exact this
  · have b44 : bel 44 (goI u) u u' := fun j _ => by rw [e.1 44 (by omega) (by omega)]
    have h3' : SITE s' u' γ b k := by
      obtain ⟨p1, L, p2, p3⟩ := h3
      exact ⟨by rw [hs.cd]; exact p1, L, hu.chn.eIS e (by rw [hu.go]; exact h1.1) p2, p3⟩
    obtain ⟨vt, q1, q2, q3⟩ := e4 γ b k ((ACC.of hu.go b44 γ).mpr h1) (by rw [e.1 44 (by omega) (by omega)]; exact h2) h3'
    rw [e.g (by decide) (by decide)] at q2 q3
    rw [hu.cd] at q1
    exact ⟨vt, q1, q2, fun z => q3 (z.tbs hu)⟩
theorem TOPR.of {s u : RS} (hg : goI u = goI s) (h44 : bel 44 (goI s) s u) (h46 : bel 46 (goI s) s u) {γ : Nat} (h : TOPR u γ) : TOPR s γ := by
  have h1 := h.1
  refine ⟨by omega, fun δ d1 d2 => ?_⟩
  have := h.2 δ d1 (by omega)
  rw [h44 δ d2, h46 δ d2] at this
  exact this
theorem PRL.kp {t : Nat} {s u : RS} (h : PRL s) (hk : KP t s u) (hg : goI u = goI s) : PRL u := by
  obtain ⟨h1, h2⟩ := h
  have kg := hk.2.2.2.2.2.2.1
  have e46 : bel 46 (goI s) s u := fun γ hγ => by
    rcases kg.2.2.2.2.2 γ hγ with q | q
    · exact q
    · exact absurd q (h2 γ)
  refine ⟨fun γ a1 a2 a3 => ?_, fun γ a1 => h2 γ (a1.of hg kg.2.1 e46)⟩
  have b1 := (ACC.of hg kg.2.1 γ).mp a1
  have e : gv u 46 γ = gv s 46 γ := by unfold gv; rw [e46 γ b1.1]
  rw [e] at a3
  obtain ⟨c1, c2, c3⟩ := h1 γ b1 (by rw [← kg.2.1 γ b1.1]; exact a2) a3
  rw [e, hg]
  exact ⟨c1, c2, by rw [kg.2.1 _ (by omega)]; exact c3⟩
theorem LGA.tbl {s u : RS} (h : LGA s) (hw : TBL s u) : LGA u := by
  have b44 : bel 44 (goI s) s u := fun j _ => by rw [hw.1 44 (by omega)]
  intro γ a1 a2 a3
  rw [hw.g (by decide)] at a3 ⊢
  rw [hw.go, hw.1 44 (by omega)]
  rw [hw.1 44 (by omega)] at a2
  exact h γ ((ACC.of hw.go b44 γ).mp a1) a2 a3
theorem PRS.tbl {s u : RS} (h : PRS s) (hw : TBL s u) (h10 : u.i 10 = s.i 10) : PRS u := ⟨h.1.tbl hw, fun γ a1 => by
  rw [h10]
  exact h.2 γ (a1.of hw.go (fun j _ => by rw [hw.1 44 (by omega)]) (fun j _ => by rw [hw.1 46 (by omega)]))⟩
theorem PRL.tbl {s u : RS} (h : PRL s) (hw : TBL s u) : PRL u := ⟨h.1.tbl hw, fun γ a1 => h.2 γ (a1.of hw.go (fun j _ => by rw [hw.1 44 (by omega)]) (fun j _ => by rw [hw.1 46 (by omega)]))⟩
theorem SNW.tr {t : Nat} {s u w : RS} (h1 : SNW s u) (h2 : SNW u w) (k1 : KP t s u) (k2 : KP t u w) : SNW s w := by
  refine ⟨by have := h1.1; have := h2.1; omega, fun x x1 x2 => ?_⟩
  have s1 := k1.2.2.2.2.2.1
  have s2 := k2.2.2.2.2.2.1
  by_cases c : (x : Int) < seI u
  · have := h1.2 x x1 c
    unfold gv at *
    rw [s2.2.2.1 x c]
    exact this
  · have := h2.2 x (by omega) x2
    have := s1.2.1
    omega
theorem SNW.eq {s u : RS} (h : u.i 38 = s.i 38) (hs : slI s ≤ slI u) : SNW s u := by
  have e : seI u = seI s := by unfold seI; rw [h]
  exact ⟨by omega, fun x x1 x2 => by omega⟩
/-- behind a call of a statement, from the frame at t -/
def PCS (t : Nat) (st : Int32) (u w : RS) : Prop := INV w ∧ tpI w = t ∧ KP t u w ∧ SAME u w ∧ RATE u w ∧ SNW u w ∧ fr u ≤ fr w ∧ tkI u ≤ tkI w ∧ (¬ 0 ≤ w.i 18 → TS u w) ∧ w.a 65 t = st ∧ ∀ k : Nat, 64 ≤ k → k ≤ 73 → k ≠ 65 → w.a k t = u.a k t
theorem PCS.of {t : Nat} {st K : Int32} {u w : RS} (hf : fr u ≤ 900) (h : PS (t + 1) (TH u t st K) w) : PCS t st u w := by
  obtain ⟨a1, a2, a3, a4, a5, a6, a7, a8, a9⟩ := h
  have kt : KP t u (TH u t st K) := (KP.rf t u).th (Nat.le_refl _)
  have kf := a3.2.2.2.2.2.2.2.2.2.2
  refine ⟨a1, by rw [a2]; omega, kt.tr a3 (by omega), a4, a5, a6, a7, a8, fun z => (a9 z).tbs (TH.tbl u t st K).sy (TBL.rf w).tbs rfl (Int.le_refl _) hf id, ?_, fun k k1 k2 k3 => ?_⟩
  · rw [kf 65 (by omega) (by omega) t (by omega)]; exact TH.st
  · rw [kf k k1 k2 t (by omega)]
    by_cases c : k = 64
    · subst c; exact TH.fk0 (Nat.le_refl _)
    · exact congrFun (TH.loc c k3) t
theorem FS'.pre {u w : RS} {t : Nat} {st K : Int32} (hw : FS' (TH u t st K) w) : FS' u w := by
  obtain ⟨a1, a2, a3⟩ := hw
  exact ⟨a1, ⟨fun j hj => (a2.1 j hj).trans (if_neg (by omega)), fun k hk => (a2.2.1 k hk).trans ((TH.tbl u t st K).1 k (by omega)), a2.2.2⟩, a3⟩
theorem CALLS {N : Nat} {b : Nat} (hr : RUNS N b) {n : Nat} {u : RS} {t : Nat} {st : Int32} {P : RS → Prop} (hI : INV u) (hp : PRS u) (ht : tpI u = t) (h9 : t < 999) (hb : 2 * ((t : Int) + 1) ≤ fr u + 12 * op u + 2) (hc : 900 - fr u ≤ b) (hn : 36000 + 30 ≤ (n : Int) + 40 * fr u) (hF : ∀ w, FS' u w → P w) (hC : ∀ (m : Nat) (w : RS), PCS t st u w → fr u + 1 ≤ fr w → (n : Int) + 40 * fr u + 10 ≤ m + 40 * fr w → ok (f_X12_parse_10 N m w) P) : ok (f_X12_parse_10 N n (TH u t st 2)) P :=
  hr n (TH u t st 2) (t + 1) P hI.th (hp.tbl (TH.tbl u t st 2) rfl) (TH.tp ht (by omega)) TH.fk TH.fs (by show 2 * (((t + 1 : Nat)) : Int) ≤ fr u + 12 * op u + 2; omega) hc hn (fun w hw => hF w hw.pre) (fun m w hw hm hm2 => hC m w (PCS.of hI.1.f0.2 hw) hm hm2)
theorem CALLL {N : Nat} {b : Nat} (hr : RUNL N b) {n : Nat} {u : RS} {t : Nat} {st : Int32} {P : RS → Prop} (hI : INV u) (hp : PRL u) (ht : tpI u = t) (h9 : t < 999) (hb : 2 * ((t : Int) + 1) ≤ fr u + 12 * op u) (hc : 900 - fr u ≤ b) (hn : 36000 + 33 ≤ (n : Int) + 40 * fr u) (hF : ∀ w, FS' u w → P w) (hC : ∀ (m : Nat) (w : RS), PCS t st u w → (w.i 10 = 125 ∨ w.i 10 = 429 ∨ w.i 10 = 430 ∨ w.i 10 = 0) → (n : Int) + 40 * fr u ≤ m + 40 * fr w + 1 → ok (f_X12_parse_10 N m w) P) : ok (f_X12_parse_10 N n (TH u t st 1)) P :=
  hr n (TH u t st 1) (t + 1) P hI.th (hp.tbl (TH.tbl u t st 1)) (TH.tp ht (by omega)) TH.fk TH.fs (by show 2 * (((t + 1 : Nat)) : Int) ≤ fr u + 12 * op u; omega) hc hn (fun w hw => hF w hw.pre) (fun m w hw hm hm2 => hC m w (PCS.of hI.1.f0.2 hw) hm hm2)
theorem TBL.i75 (u : RS) (v : Int32) : TBL u (u.setI 75 v) := ⟨fun _ _ => rfl, rfl, fun _ _ _ _ h => if_neg h⟩
theorem TBL.i18 (u : RS) (v : Int32) : TBL u (u.setI 18 v) := ⟨fun _ _ => rfl, rfl, fun _ _ _ _ _ => if_neg (by omega)⟩
theorem TBL.i53 (u : RS) (v : Int32) : TBL u (u.setI 53 v) := ⟨fun _ _ => rfl, rfl, fun _ _ _ _ _ => if_neg (by omega)⟩
theorem TS.nil {s u : RS} (h : TBL s u) (hr : u.i 75 = 1) : TS s u := by
  intro f C hA hC h9 o v rs hx hy
  refine COD.nil (fun g _ hE => ?_)
  have := hE.2.1 hr
  rw [h.cd] at this
  exact this
theorem INV.i18 {u : RS} (h : INV u) (v : Int32) : INV (u.setI 18 v) := h.tbl (TBL.i18 u v) h.1 h.2.2.1 rfl rfl h.r (Int.le_refl _) h.tk
theorem INV.i75 {u : RS} (h : INV u) (v : Int32) (hv : v = 0 ∨ v = 1) : INV (u.setI 75 v) := h.tbl (TBL.i75 u v) h.1 h.2.2.1 rfl rfl hv (Int.le_refl _) h.tk
theorem TAB.i75 {u : RS} (h : TAB u) (v : Int32) (hv : v = 0 ∨ v = 1) : TAB (u.setI 75 v) := h.tbl (TBL.i75 u v) (fun γ hγ => (h.2.2.2.2.2.2.1 γ hγ).2) hv
theorem e_over {N : Nat} {u : RS} {x : Int32} (h : x = 0 ∨ x = 1) : f_X12_over N u x = some ((u.setI 75 x).setI 63 (u.i 63 - 1)) := by
  unfold f_X12_over
  rw [if_pos h]
/-- a list's head -/
def LH (t : Nat) (s w : RS) (ρ : Int32) : Prop := INV w ∧ tpI w = t ∧ KP t s w ∧ SAME s w ∧ RATE s w ∧ SNW s w ∧ fr s ≤ fr w ∧ tkI s ≤ tkI w ∧ (ρ = 0 ∨ ρ = 1) ∧ (¬ 0 ≤ w.i 18 → TS s (w.setI 75 ρ))
theorem e_list {N : Nat} {w : RS} {t : Nat} {ρ : Int32} (ht : tpI w = t) (h9 : t < 1000) (h : w.a 65 t = 0 ∧ ρ = 1 ∨ w.a 65 t = 1 ∧ ρ = w.i 75) (hr : ρ = 0 ∨ ρ = 1) : f_X12_list N w (w.i 63) = f_X12_list_37 N (w.setA 66 t ρ) (w.i 63) := by
  unfold f_X12_list
  rw [if_pos (tp_ib ht h9), tp_nat ht]
  rcases h with ⟨h1, h2⟩ | ⟨h1, h2⟩
  · rw [if_pos h1, h2]
  · rw [if_neg (by rw [h1]; decide)]
    rcases hr with hr | hr
    · rw [if_pos (by rw [← h2]; exact hr), hr]
    · rw [if_neg (by rw [← h2, hr]; decide), hr]
theorem PS.of {t : Nat} {s w : RS} {ρ : Int32} (h : LH t s w ρ) (h9 : t < 1000) : PS t s (((w.setA 66 t ρ).setI 75 ρ).setI 63 (w.i 63 - 1)) := by
  obtain ⟨a1, a2, a3, a4, a5, a6, a7, a8, a9, a10⟩ := h
  have tb : TBL w (((w.setA 66 t ρ).setI 75 ρ).setI 63 (w.i 63 - 1)) := ((TBL.loc w (k := 66) t ρ (by omega) (by omega)).tr (TBL.i75 _ ρ)).tr (TBL.i63 _ _)
  refine ⟨(((a1.loc (k := 66) t ρ (by omega) (by omega)).i75 ρ a9).i63 _), tp_sub a2 h9, (((a3.loc (k := 66) t ρ (by omega) (by omega) (Nat.le_refl _)).i75 ρ).i63 _), a4, a5, a6, a7, a8, fun z => ?_⟩
  exact (a10 z).tbs (TBL.rf s) (((TBL.i75 w ρ).sy.tr tb).tbs) rfl (Int.le_refl _) (by have := a1.1.f0; omega) (fun q => q)
theorem run_list {N : Nat} {b : Nat} (hs : RUNS N b) : RUNL N b := by
  intro n s t P hI hp ht hK hS hb hc hn hF hC
  have hf := hI.1.f0
  have hop := hI.op
  have h9 : t < 998 := by omega
  have head : ∀ (c m : Nat) (w : RS) (ρ : Int32), (900 - fr w).toNat = c → LH t s w ρ → w.a 64 t = 1 → (w.a 65 t = 0 ∧ ρ = 1 ∨ w.a 65 t = 1 ∧ ρ = w.i 75) → (n : Int) + 40 * fr s ≤ m + 40 * fr w → ok (f_X12_parse_10 N m w) P := by
    intro c
    induction c using Nat.strongRecOn with
    | ind c IH =>
      intro m w ρ hcw hw kw hρ hm
      have hw' := hw
      obtain ⟨a1, a2, a3, a4, a5, a6, a7, a8, a9, a10⟩ := hw'
      have fw := a1.1.f0
      obtain ⟨m', rfl⟩ : ∃ m', m = m' + 1 := ⟨m - 1, by omega⟩
      have push : ((m' + 1 : Nat) : Int) = (m' : Int) + 1 := by omega
      rw [push] at hm
      refine lp_1 a2 (by omega) a1.2.2.1 kw ?_
      rw [e_list a2 (by omega) hρ a9]
      unfold f_X12_list_37
      have ends : (w.i 10 = 125 ∨ w.i 10 = 429 ∨ w.i 10 = 430 ∨ w.i 10 = 0) → ok ((f_X12_list_73 N (w.setA 66 t ρ) (w.i 63)).bind fun p => f_X12_parse_10 N m' p) P := fun he => by
        have e : f_X12_list_73 N (w.setA 66 t ρ) (w.i 63) = some (((w.setA 66 t ρ).setI 75 ρ).setI 63 (w.i 63 - 1)) := by
          unfold f_X12_list_73
          rw [if_pos (tp_ib a2 (by omega)), tp_nat a2]
          have e66 : (w.setA 66 t ρ).a 66 t = ρ := setA_at
          rw [e66]
          rcases a9 with r | r
          · subst r
            rw [if_neg (by decide), e_over (Or.inl rfl)]
            rfl
          · subst r
            rw [if_pos rfl, e_over (Or.inr rfl)]
            rfl
        rw [e]
        exact hC m' _ (PS.of hw (by omega)) he (by show (n : Int) + 40 * fr s ≤ m' + 40 * fr w + 1; omega)
      by_cases c1 : w.i 10 = 125
      · rw [if_pos (show (w.setA 66 t ρ).i 10 = 125 from c1)]; exact ends (Or.inl c1)
      rw [if_neg (show ¬ (w.setA 66 t ρ).i 10 = 125 from c1)]
      by_cases c2 : w.i 10 = 429
      · rw [if_pos (show (w.setA 66 t ρ).i 10 = 429 from c2)]; exact ends (Or.inr (Or.inl c2))
      rw [if_neg (show ¬ (w.setA 66 t ρ).i 10 = 429 from c2)]
      by_cases c3 : w.i 10 = 430
      · rw [if_pos (show (w.setA 66 t ρ).i 10 = 430 from c3)]; exact ends (Or.inr (Or.inr (Or.inl c3)))
      rw [if_neg (show ¬ (w.setA 66 t ρ).i 10 = 430 from c3)]
      by_cases c4 : w.i 10 = 0
      · rw [if_pos (show (w.setA 66 t ρ).i 10 = 0 from c4)]; exact ends (Or.inr (Or.inr (Or.inr c4)))
      rw [if_neg (show ¬ (w.setA 66 t ρ).i 10 = 0 from c4)]
      rw [if_pos (tp_ib a2 (by omega)), tp_nat a2]
      have e66 : (w.setA 66 t ρ).a 66 t = ρ := setA_at
      rw [e66]
      have st : ∀ w2 : RS, TBL w w2 → INV w2 → tpI w2 = t → KP t w w2 → SAME w w2 → fr w2 = fr w → tkI w2 = tkI w → w2.i 10 = w.i 10 → w2.i 38 = w.i 38 → (∀ k : Nat, 64 ≤ k → k ≤ 73 → k ≠ 66 → w2.a k t = w.a k t) → (¬ 0 ≤ w2.i 18 → ρ = 1) → ok ((f_X12_list_110 N w2).bind fun p => f_X12_parse_10 N m' p) P := by
        intro w2 tb i2 t2 k2 s2 f2 tk2 i10 i38 l2 lt
        unfold f_X12_list_110
        rw [p_th 1 2 t2 (by omega)]
        show ok (f_X12_parse_10 N m' (TH w2 t 1 2)) P
        have ksw2 : KP t s w2 := a3.tr k2 (Nat.le_refl _)
        have sm2 : SAME s w2 := a4.tr s2
        have prl : PRL w2 := hp.kp ksw2 sm2.go
        have ow2 : op w2 = op s := sm2.eOp
        refine CALLS hs i2 ⟨prl.1, prl.2.p3⟩ t2 (by omega) (by omega) (by omega) (by omega) (fun u hu => hF u (FS'.kp ksw2 hu)) (fun m2 v hv hv1 hm2 => ?_)
        obtain ⟨v1, v2, v3, v4, v5, v6, v7, v8, v9, v10, v11⟩ := hv
        have fv := v1.1.f0
        have snw2 : SNW w w2 := SNW.eq i38 (by have := tb.sl; omega)
        refine IH (900 - fr v).toNat (by omega) m2 v (v.i 75) rfl ⟨v1, v2, ksw2.tr v3 (Nat.le_refl _), sm2.tr v4, (a5.tr (tb.rate (by omega) (by omega))).tr v5, (a6.tr snw2 a3 k2).tr v6 ksw2 v3, by omega, by omega, v1.r, fun z => ?_⟩ ((v11 64 (by omega) (by omega) (by omega)).trans ((l2 64 (by omega) (by omega) (by omega)).trans kw)) (Or.inr ⟨v10, rfl⟩) (by omega)
        have z1 : ¬ 0 ≤ v.i 18 := z
        have z2 : ¬ 0 ≤ w2.i 18 := fun q => z1 (v3.1.2 q)
        have z3 : ¬ 0 ≤ w.i 18 := fun q => z2 (k2.1.2 q)
        have hρ1 := lt z2
        have tA := a10 z3
        rw [hρ1] at tA
        have tb1 : TBL w2 (w.setI 75 1) := tb.sy.tr (TBL.i75 w 1)
        have tB : TS (w.setI 75 1) v := (v9 z1).tbs tb1 (TBL.rf v).tbs (s2.2.2.1).symm (by show fr w ≤ fr w2; omega) (by omega) id
        have kA : KP t s (w.setI 75 1) := a3.i75 1
        have kB : KP t (w.setI 75 1) v := (((KP.rf t (w.setI 75 1)).tbl tb1.sy (fun z => k2.1.2 z) (fun k k1 k2' j hj => k2.2.2.2.2.2.2.2.2.2.2 k k1 k2' j hj))).tr v3 (Nat.le_refl _)
        have sA : SAME s (w.setI 75 1) := a4
        have sB : SAME (w.setI 75 1) v := s2.tr v4
        have tS := TS.seq tA tB kA kB sA sB a6 hI.2.2.2.1 (a1.2.2.2.1.i75 1 (Or.inr rfl)) rfl a7 (by show fr w ≤ 900; omega)
        exact tS.tbs (TBL.rf s) (TBL.i75 v _).tbs rfl (Int.le_refl _) (by omega) (fun q => q)
      by_cases cr : ρ = 0
      · rw [if_pos cr, e_note]
        show ok ((f_X12_list_110 N (if w.i 15 = 0 ∧ ¬ 0 ≤ w.i 18 then (w.setA 66 t ρ).setI 18 (w.i 11) else w.setA 66 t ρ)).bind fun p => f_X12_parse_10 N m' p) P
        have kl : KP t w (w.setA 66 t ρ) := (KP.rf t w).loc (k := 66) t ρ (by omega) (by omega) (Nat.le_refl _)
        by_cases cl : w.i 15 = 0 ∧ ¬ 0 ≤ w.i 18
        · rw [if_pos cl]
          refine st _ ((TBL.loc w (k := 66) t ρ (by omega) (by omega)).tr (TBL.i18 _ _)) ((a1.loc (k := 66) t ρ (by omega) (by omega)).i18 _) a2 (kl.i18 _ a1.1.1) ⟨rfl, rfl, rfl, rfl⟩ rfl rfl rfl rfl (fun k k1 k2 k3 => congrFun (setA_nk k3) t) (fun z => absurd a1.1.1 z)
        · rw [if_neg cl]
          refine st _ (TBL.loc w (k := 66) t ρ (by omega) (by omega)) (a1.loc (k := 66) t ρ (by omega) (by omega)) a2 kl ⟨rfl, rfl, rfl, rfl⟩ rfl rfl rfl rfl (fun k k1 k2 k3 => congrFun (setA_nk k3) t) (fun z => absurd ⟨a1.2.2.1, z⟩ cl)
      · rw [if_neg cr]
        have r1 : ρ = 1 := by
          rcases a9 with r | r
          · exact absurd r cr
          · exact r
        refine st _ (TBL.loc w (k := 66) t ρ (by omega) (by omega)) (a1.loc (k := 66) t ρ (by omega) (by omega)) a2 ((KP.rf t w).loc (k := 66) t ρ (by omega) (by omega) (Nat.le_refl _)) ⟨rfl, rfl, rfl, rfl⟩ rfl rfl rfl rfl (fun k k1 k2 k3 => congrFun (setA_nk k3) t) (fun _ => r1)
  exact head _ n s 1 rfl ⟨hI, ht, KP.rf t s, ⟨rfl, rfl, rfl, rfl⟩, RATE.rf s, SNW.eq rfl (Int.le_refl _), Int.le_refl _, Int.le_refl _, Or.inr rfl, fun _ => TS.nil (TBL.i75 s 1) rfl⟩ hK (Or.inl ⟨hS, rfl⟩) (Int.le_refl _)
