/-! reading: try: the whole, typed -/
/-- the chain of a try's catches, in their order -/
def CACH (u : RS) : Int → List Nat → Prop
  | x, [] => x < 0
  | x, j :: L => x = (j : Int) ∧ (∀ i ∈ L, j < i) ∧ CACH u (gv u 37 j) L
theorem CACH.of {s u : RS} : ∀ {L : List Nat} {x : Int}, CACH s x L → (∀ j ∈ L, gv u 37 j = gv s 37 j) → CACH u x L
  | [], _, h, _ => h
  | j :: L, _, ⟨h1, h2, h3⟩, hu => by
    refine ⟨h1, h2, ?_⟩
    rw [hu j (List.mem_cons_self ..)]
    exact CACH.of h3 (fun i hi => hu i (List.mem_cons_of_mem _ hi))
theorem CACH.snoc {s u : RS} {e j : Nat} : ∀ {M : List Nat} {x : Int}, CACH s x (M ++ [j]) → (∀ i ∈ M, gv u 37 i = gv s 37 i) → gv u 37 j = (e : Int) → gv u 37 e < 0 → (∀ i ∈ M, i < e) → j < e → CACH u x (M ++ [j] ++ [e])
  | [], x, h, hu, hj, he, hM, hlt => by
    have h : CACH s x (j :: []) := h
    show CACH u x (j :: e :: [])
    refine ⟨h.1, fun i hi => ?_, ?_⟩
    · rcases List.mem_cons.mp hi with q | q
      · rw [q]; exact hlt
      · exact absurd q List.not_mem_nil
    · rw [hj]
      exact ⟨rfl, fun i hi => absurd hi List.not_mem_nil, he⟩
  | m :: M, x, h, hu, hj, he, hM, hlt => by
    have h : CACH s x (m :: (M ++ [j])) := h
    show CACH u x (m :: (M ++ [j] ++ [e]))
    obtain ⟨h1, h2, h3⟩ := h
    refine ⟨h1, fun i hi => ?_, ?_⟩
    · rcases List.mem_append.mp hi with q | q
      · exact h2 i q
      · rcases List.mem_cons.mp q with q | q
        · rw [q]; exact hM m (List.mem_cons_self ..)
        · exact absurd q List.not_mem_nil
    · rw [hu m (List.mem_cons_self ..)]
      exact CACH.snoc h3 (fun i hi => hu i (List.mem_cons_of_mem _ hi)) hj he (fun i hi => hM i (List.mem_cons_of_mem _ hi)) hlt
theorem CACH.inn {W : RS} {j : Nat} : ∀ {n : Nat} {x : Int} {L : List Nat}, catchIn W j n x → CACH W x L → j ∈ L
  | 0, _, _, h, _ => h.elim
  | n + 1, x, [], h, q => by
    have q : x < 0 := q
    have := h.1
    omega
  | n + 1, x, i :: L, h, q => by
    obtain ⟨h0, h1⟩ := h
    obtain ⟨q1, q2, q3⟩ := q
    rcases h1 with h1 | h1
    · have : j = i := by omega
      rw [this]; exact List.mem_cons_self ..
    · have e : x.toNat = i := by omega
      rw [e] at h1
      exact List.mem_cons_of_mem _ (CACH.inn h1 q3)
theorem CACH.mem {W : RS} {j : Nat} : ∀ {n : Nat} {x : Int} {L : List Nat}, CACH W x L → j ∈ L → L.length ≤ n → catchIn W j n x
  | _, _, [], _, h, _ => absurd h List.not_mem_nil
  | 0, _, _ :: _, _, _, h => absurd h (Nat.not_succ_le_zero _)
  | n + 1, x, i :: L, q, h, hn => by
    obtain ⟨q1, q2, q3⟩ := q
    refine ⟨by omega, ?_⟩
    rcases List.mem_cons.mp h with h | h
    · left; rw [q1, h]
    · right
      have e : x.toNat = i := by omega
      rw [e]
      exact CACH.mem q3 h (Nat.le_of_succ_le_succ hn)
theorem CACH.nd {W : RS} : ∀ {L : List Nat} {x : Int}, CACH W x L → ND L
  | [], _, _ => True.intro
  | i :: L, _, q => ⟨fun h => by have := q.2.1 i h; omega, CACH.nd q.2.2⟩
theorem CACH.nxt {W : RS} {j : Nat} : ∀ {L : List Nat} {x : Int}, CACH W x L → j ∈ L → gv W 37 j < 0 ∨ ∃ i ∈ L, gv W 37 j = (i : Int) ∧ j < i
  | [], _, _, h => absurd h List.not_mem_nil
  | i :: [], _, q, h => by
    rcases List.mem_cons.mp h with h | h
    · subst h; exact Or.inl q.2.2
    · exact absurd h List.not_mem_nil
  | i :: m :: L, _, q, h => by
    rcases List.mem_cons.mp h with h | h
    · subst h
      have q3 : CACH W (gv W 37 j) (m :: L) := q.2.2
      exact Or.inr ⟨m, List.mem_cons_of_mem _ (List.mem_cons_self ..), q3.1, q.2.1 m (List.mem_cons_self ..)⟩
    · rcases CACH.nxt (L := m :: L) q.2.2 h with r | ⟨y, y1, y2, y3⟩
      · exact Or.inl r
      · exact Or.inr ⟨y, List.mem_cons_of_mem _ y1, y2, y3⟩
theorem AGZ.comp {Z : Nat → Nat → Prop} {s u W f : RS} (h1 : AGZ Z s u W) (h2 : AG0 s W f) (ho : ∀ k : Nat, cdI s ≤ k → (k : Int) < cdI u → OPN W k → OPN u k) (hca : caI u ≤ caI W) : AGZ Z s u f := by
  obtain ⟨a1, a2, a3, a4, a5, a6, a7, a8⟩ := h1
  obtain ⟨b1, b2, b3, b4, b5, b6, b7, b8⟩ := h2
  exact ⟨by omega, by omega, by omega, by omega, fun k k1 k2 => ⟨(b5 k k1 (by omega)).1.trans (a5 k k1 k2).1, fun z => ⟨(b5 k k1 (by omega)).2.1.trans ((a5 k k1 k2).2 z).1, fun q => ((b5 k k1 (by omega)).2.2 (fun y => q (ho k k1 k2 y))).trans (((a5 k k1 k2).2 z).2 q)⟩⟩, fun k k1 k2 => ⟨(b6 k k1 (by omega)).1.trans (a6 k k1 k2).1, (b6 k k1 (by omega)).2.2.trans (a6 k k1 k2).2.1, fun z => (b6 k k1 (by omega)).2.1.trans ((a6 k k1 k2).2.2 z)⟩, fun k k1 k2 z => ⟨(b7 k k1 (by omega)).1.trans (a7 k k1 k2 z).1, (b7 k k1 (by omega)).2.1.trans (a7 k k1 k2 z).2.1, (b7 k k1 (by omega)).2.2.trans (a7 k k1 k2 z).2.2⟩, fun k k1 k2 => ⟨(b8 k k1 (by omega)).1.trans (a8 k k1 k2).1, (b8 k k1 (by omega)).2.1.trans (a8 k k1 k2).2.1, fun z => (b8 k k1 (by omega)).2.2.trans ((a8 k k1 k2).2.2 z)⟩⟩
/-- what a finally gives -/
def FINP (id : Nat) (ps ek : Bool) (s u W : RS) : Prop := ∀ (f : RS) (C : Nat → Bool), AG0 s W f → AGC s W C → ∀ (h o v : Nat) (rs : List Rec), CX s h o v rs → YE s rs → ∃ S : Nat → Ctx → Prop, ∀ g : Gh, g.isC = C → (∀ k c, S k c → g.T k c) → ENS s W f h o v rs g → (∀ k : Nat, (k : Int) < cdI W → recsOK f g k v (TYR id h o v 2 ps ek :: rs)) → (0 ≤ gv f 31 id → cdI u ≤ gv f 31 id ∧ FL f g v (gv f 31 id) (gv f 31 id) h o (TYR id h o v 2 ps ek :: rs)) ∧ ∀ k c, S k c → GOOD f g k c
theorem FINP.none {id : Nat} {ps ek : Bool} {s u W : RS} (h31 : gv W 31 id < 0) (hid : trI s ≤ (id : Int)) (h2 : (id : Int) < trI W) : FINP id ps ek s u W := by
  intro f C hA _ h o v rs _ _
  have e : gv f 31 id = gv W 31 id := by unfold gv; rw [(hA.2.2.2.2.2.2.1 id hid h2).2.1]
  exact ⟨fun _ _ => False, fun g _ _ _ _ => ⟨fun q => by omega, fun _ _ q => q.elim⟩⟩
theorem lvA_tr {f : RS} {d h vt id o v p : Nat} {x : Int} {ps ek : Bool} {rs : List Rec} (hl : lvA f d h vt x rs) (hv : vt < v ∨ vt ≤ v ∧ gv f 32 id ≤ x) : lvA f d h vt x (TYR id h o v p ps ek :: rs) := Or.inr ⟨by show ¬ (4 : Nat) = 3; decide, fun _ => ⟨rfl, hv⟩, hl⟩
/-- a finally -/
theorem FINP.blk {t id : Nat} {ps ek : Bool} {s u B v W : RS} (hI : INV s) (ts : TS B v) (kB : KP t s B) (k2 : KP t B v) (s2 : SAME B v) (iv : INVW v) (lat : LAT noZ B v W) (cW : cdI W = cdI v + 1) (W21 : W.a 21 (cdI v).toNat = 35) (W31 : gv W 31 id = cdI B) (W32 : gv W 32 id = cdI W) (cu : cdI u ≤ cdI B) (B38 : B.i 38 = s.i 38) (dB : deI B = deI s + 1) (gB : goI B = goI s) (gW : goI W = goI s) (fB : fr s ≤ fr B) (f9 : fr B ≤ 900) (d9 : deI B ≤ 250) (hid : trI s ≤ (id : Int)) (h2 : (id : Int) < trI W) (W4 : ∀ γ : Nat, (γ : Int) < goI s → W.a 44 γ = v.a 44 γ ∧ W.a 47 γ = v.a 47 γ) (hst : ∀ (γ : Nat) (b : Bool) (k : Nat), (γ : Int) < goI s → SITE B v γ b k → SITE s W γ b k) (harv : ∀ (γ : Nat) (b : Bool), (γ : Int) < goI s → ARV v γ b → ARV W γ b) (hps : v.i 75 = 1 → ps = true) (hek : ek = true → W.i 75 = 1) : FINP id ps ek s u W := by
  intro f C hA hC h o lv rs hx hy
  have fv := iv.1.f0
  have cv := iv.cd
  have le := k2.2.1.1
  have cs := kB.2.1.1
  have ek' : ((cdI v).toNat : Int) = cdI v := Int.toNat_of_nonneg cv.1
  have hx1 := hx.1
  have hx2 := hx.2.1
  have hx3 := hx.2.2.1
  obtain ⟨r0, r1, r2⟩ := hA.2.2.2.2.2.2.1 id hid h2
  have e31 : gv f 31 id = cdI B := by rw [← W31]; unfold gv; rw [r1]
  have e32 : gv f 32 id = cdI W := by rw [← W32]; unfold gv; rw [r2]
  obtain ⟨AB, CB⟩ := lat.use hA hC kB k2
  have kg := kB.2.2.2.2.2.2.1
  have hds : ∀ γ : Nat, (γ : Int) < goI s → gv s 47 γ ≤ (rs.length : Int) := fun γ hγ => by
    have := hI.2.2.2.1.2.2.2.2.2.2.1 γ hγ; omega
  have cxB : CX B h o lv (TYR id h o lv 2 ps ek :: rs) := hx.tr dB fB f9 d9 (by omega) (Or.inr rfl)
  have c2 := ts f C AB CB h o lv _ cxB (hy.tr gB kg.2.1 kg.2.2.1 hds)
  obtain ⟨p1, p2, p3, p4⟩ := hA.cell (k := (cdI v).toNat) (o := 35) (x := W.a 22 (cdI v).toNat) (by omega) (by omega) W21 rfl (by decide)
  have gvB : goI v = goI B := s2.go
  have env : ∀ g : Gh, ENS s W f h o lv rs g → (∀ k : Nat, (k : Int) < cdI W → recsOK f g k lv (TYR id h o lv 2 ps ek :: rs)) → (v.i 75 = 1 → FL f g lv (cdI v) (cdI v) h o (TYR id h o lv 2 ps ek :: rs)) → ENS B v f h o lv (TYR id h o lv 2 ps ek :: rs) g := fun g hE hR hF => by
    refine ⟨ENB.mid (s := s) (w := W) ⟨hR, hE.1.2⟩ kB B38 (by omega), hF, fun γ b k a1 a2 a3 => ?_⟩
    have hγ : (γ : Int) < goI s := by have := a1.1; omega
    have e47 : gv W 47 γ = gv v 47 γ := by unfold gv; rw [(W4 γ hγ).2]
    have acc : ACC W γ := ⟨by omega, by rw [(W4 γ hγ).1]; exact a1.2.1, fun δ d1 d2 => by rw [(W4 δ (by omega)).1]; exact a1.2.2 δ d1 (by omega)⟩
    obtain ⟨vt, j1, j2, j3⟩ := hE.2.2 γ b k acc (by rw [(W4 γ hγ).1]; exact a2) (hst γ b k hγ a3)
    rw [e47] at j2 j3
    have hd' : (gv v 47 γ).toNat ≤ rs.length := by
      have q := hds γ hγ
      have q2 : gv v 47 γ = gv s 47 γ := by
        have kg2 := k2.2.2.2.2.2.2.1
        unfold gv; rw [kg2.2.2.1 γ (by omega), kg.2.2.1 γ hγ]
      omega
    refine ⟨vt, ?_, lvA_tr j2 (by rw [e32]; exact j1), fun z y => ?_⟩
    · rcases j1 with j1 | j1
      · exact Or.inl j1
      · exact Or.inr ⟨j1.1, by omega⟩
    · refine (j3 (harv γ b hγ z) ?_).tr hd' rfl
      rcases y with y | y
      · have y : rs.length + 1 ≤ (gv v 47 γ).toNat := y
        omega
      · exact y.2
  have cB' : COD f C (cdI B) h o lv (TYR id h o lv 2 ps ek :: rs) (fun g => ENS s W f h o lv rs g ∧ ∀ k : Nat, (k : Int) < cdI W → recsOK f g k lv (TYR id h o lv 2 ps ek :: rs)) := by
    by_cases cr : v.i 75 = 1
    · have c35 : COD f C (cdI v).toNat h o lv (TYR id h o lv 2 ps ek :: rs) (fun g => ENS s W f h o lv rs g ∧ ∀ k : Nat, (k : Int) < cdI W → recsOK f g k lv (TYR id h o lv 2 ps ek :: rs)) := by
        refine COD.ins (s := B) cxB (by omega) (fun g _ hE => ⟨?_, hE.2 _ (by omega)⟩)
        refine okJ_35 (c := (h, o, lv, false, TYR id h o lv 2 ps ek :: rs)) p1 ⟨TYR id h o lv 2 ps ek, rs, rfl, rfl, rfl, rfl, rfl, hps cr, fun z => ?_⟩
        show FL f g lv (((cdI v).toNat : Int) + 1) (((cdI v).toNat : Int) + 1) h o rs
        rw [ek', ← cW]
        exact hE.1.2.1 (hek z)
      exact COD.seq c2 c35 (fun g _ hE => hE) (fun g hg hE hF => env g hE.1 hE.2 (fun _ => by rw [ek'] at hF; exact hF))
    · exact c2.imp (fun g hg hE => env g hE.1 hE.2 (fun q => absurd q cr))
  obtain ⟨S, hS⟩ := cB'
  refine ⟨S, fun g hg hT hE hR => ?_⟩
  obtain ⟨q1, q2⟩ := hS g hg hT ⟨hE, hR⟩
  exact ⟨fun _ => ⟨by omega, by rw [e31]; exact q1⟩, q2⟩
/-- a try -/
theorem TS.try {t id : Nat} {CL : List Nat} {s u W : RS} {e : Int} {ρ : Prop} {ps ek : Bool} (hI : INV s) (trx : TRX CL id (cdI s + 2) e ρ s u) (ksu : KP t s u) (u1 : u.a 21 (cdI s).toNat = 1) (u2 : u.a 21 (cdI s + 1).toNat = 31) (u3 : (u.a 22 (cdI s + 1).toNat).toInt = (id : Int)) (c2 : cdI s + 2 ≤ e) (eu : e ≤ cdI u) (hid : (id : Int) = trI s) (tru : trI s + 1 ≤ trI u) (hch : CACH W (gv W 30 id) CL) (hCL : ∀ j ∈ CL, caI s ≤ (j : Int) ∧ (j : Int) < caI u ∧ e ≤ gv u 35 j) (lat : LAT (ZT id CL) s u W) (gW : goI W = goI s) (gu : goI u = goI s) (W4 : ∀ γ : Nat, (γ : Int) < goI s → W.a 44 γ = u.a 44 γ ∧ W.a 47 γ = u.a 47 γ) (hst : ∀ (γ : Nat) (b : Bool) (k : Nat), (γ : Int) < goI s → SITE s u γ b k → SITE s W γ b k) (kW : KP t s W) (slW : slI W ≤ 460) (W32 : gv W 32 id = cdI W) (hend : ρ → (0 ≤ gv W 31 id → ps = true → ek = true) ∧ (¬ 0 ≤ gv W 31 id → W.i 75 = 1)) (hrs : (0 ≤ gv W 31 id → ps = true) → ∀ (γ : Nat) (b : Bool), (γ : Int) < goI s → ARV u γ b → ARV W γ b) (fin : FINP id ps ek s u W) : TS s W := by
  intro f C hA hC h o lv rs hx hy
  have cs := hI.cd
  have sl0 : 0 ≤ slI s := by have := hI.2.2.2.2.2.2.2.2.2.1; omega
  have hx1 := hx.1
  have hx2 := hx.2.1
  have hx3 := hx.2.2.1
  have f9 := hx.2.2.2.2.2.2.1
  have cuW := lat.1.1
  have trW := lat.1.2.2.1
  have caW := lat.2.2.1
  have cWf := hA.1
  have tWf := hA.2.2.1
  obtain ⟨r0, r1, r2⟩ := hA.2.2.2.2.2.2.1 id (by omega) (by omega)
  have e30 : gv f 30 id = gv W 30 id := by unfold gv; rw [r0]
  have e31 : gv f 31 id = gv W 31 id := by unfold gv; rw [r1]
  have e32 : gv f 32 id = cdI W := by rw [← W32]; unfold gv; rw [r2]
  have Au := AGZ.comp lat.1 hA lat.2.1 caW
  have Cu : AGC s u C := hC.mid (KP.rf t s) ksu lat.2.2.2.1 caW lat.2.2.2.2.1 lat.2.2.2.2.2
  obtain ⟨S0, S1, z1⟩ := trx f C Au Cu h o lv rs ps ek hx hy
  obtain ⟨S2, z2⟩ := fin f C hA hC h o lv rs hx hy
  have hd := hI.g47 gu ksu.2.2.2.2.2.2.1.2.2.1 hx1
  have ek1 : ((cdI s + 1).toNat : Int) = cdI s + 1 := Int.toNat_of_nonneg (by omega)
  have hW1 : W.a 21 (cdI s).toNat = 1 := by rw [(lat.1.2.2.2.2.1 (cdI s).toNat (by omega) (by omega)).1]; exact u1
  have hW2 : W.a 21 (cdI s + 1).toNat = 31 := by rw [(lat.1.2.2.2.2.1 (cdI s + 1).toNat (by omega) (by omega)).1]; exact u2
  have hW3 : W.a 22 (cdI s + 1).toNat = u.a 22 (cdI s + 1).toNat := ((lat.1.2.2.2.2.1 (cdI s + 1).toNat (by omega) (by omega)).2 (fun q => by
    rcases q with q | q
    · exact absurd q.1 (by decide)
    · exact absurd q.1 (by decide))).2 (fun q => by rw [q.n36] at u2; exact absurd u2 (by decide))
  obtain ⟨p1, p2, p3, p4⟩ := hA.cell (k := (cdI s + 1).toNat) (o := 31) (x := u.a 22 (cdI s + 1).toNat) (by omega) (by omega) hW2 hW3 (by decide)
  rw [u3] at p2
  have hchf : CACH f (gv f 30 id) CL := by
    rw [e30]
    refine hch.of (fun j hj => ?_)
    have := hCL j hj
    unfold gv
    rw [(hA.2.2.2.2.2.2.2 j (by omega) (by omega)).2.2]
  have kh := kW.2.2.2.2.1
  have c31 : COD f C (cdI s + 1) h o lv rs (ENS s W f h o lv rs) := by
    refine ⟨fun k c => (S0 k c ∨ S1 k c) ∨ (S2 k c ∨ (k = (cdI s + 1).toNat ∧ c = (h, o, lv, false, rs))), fun g hg hT hE => ?_⟩
    have rec2 : ∀ k : Nat, (k : Int) < cdI W → recsOK f g k lv (TYR id h o lv 2 ps ek :: rs) := fun k hk => ⟨⟨by show h ≤ 1300; omega, by show o ≤ 450; omega, Or.inr (Or.inr (Or.inr ⟨rfl, by show (id : Int) < trI f; omega, Nat.le_refl _, Nat.le_refl _, by show (k : Int) < gv f 32 id; omega, fun q => absurd q (by show ¬ (2 : Nat) = 0; decide), fun q => absurd q (by show ¬ (2 : Nat) < 2; decide)⟩))⟩, hE.1.1 k hk⟩
    obtain ⟨fl2, d2⟩ := z2 g hg (fun k c q => hT k c (Or.inr (Or.inl q))) hE rec2
    have fin1 : ∀ k : Nat, (k : Int) < cdI u → 0 ≤ gv f 31 id → FL f g lv ((k : Int) + 1) (gv f 31 id) h o (TYR id h o lv 2 ps ek :: rs) := fun k hk q => (fl2 q).2.mono (Nat.le_refl _) (by have := (fl2 q).1; omega)
    have rec1 : ∀ k : Nat, (k : Int) < cdI u → recsOK f g k lv (TYR id h o lv 1 ps ek :: rs) := fun k hk => ⟨⟨by show h ≤ 1300; omega, by show o ≤ 450; omega, Or.inr (Or.inr (Or.inr ⟨rfl, by show (id : Int) < trI f; omega, by show (1 : Nat) ≤ 2; decide, Nat.le_refl _, by show (k : Int) < gv f 32 id; omega, fun q => absurd q (by show ¬ (1 : Nat) = 0; decide), fun _ q => fin1 k hk q⟩))⟩, hE.1.1 k (by omega)⟩
    have ejt : EJT s u f g id h o lv rs ps ek := by
      intro γ b k a1 a2 a3
      have hγ : (γ : Int) < goI s := by have := a1.1; omega
      have e47 : gv W 47 γ = gv u 47 γ := by unfold gv; rw [(W4 γ hγ).2]
      have acc : ACC W γ := ⟨by omega, by rw [(W4 γ hγ).1]; exact a1.2.1, fun δ d1 d2 => by rw [(W4 δ (by omega)).1]; exact a1.2.2 δ d1 (by omega)⟩
      obtain ⟨vt, j1, j2, j3⟩ := hE.2.2 γ b k acc (by rw [(W4 γ hγ).1]; exact a2) (hst γ b k hγ a3)
      rw [e47] at j2 j3
      have hd' := hd γ (by omega)
      refine ⟨vt, ?_, lvA_tr j2 (by rw [e32]; exact j1), fun z y => ?_⟩
      · rcases j1 with j1 | j1
        · exact Or.inl j1
        · exact Or.inr ⟨j1.1, by omega⟩
      · rcases y with y | y
        · have y : rs.length + 1 ≤ (gv u 47 γ).toNat := y
          omega
        · exact j3 (hrs (fun q => y.1 rfl (by show (0 : Nat) < 2; decide) (by show 0 ≤ gv f 31 id; omega)) γ b hγ z) y.2
    obtain ⟨⟨fl1, d1⟩, bd⟩ := z1 g hg (fun k c q => hT k c (Or.inl (Or.inl q))) (fun k c q => hT k c (Or.inl (Or.inr q))) rec1 hE.1.2 (fun r => by
      obtain ⟨h1, h2⟩ := hend r
      refine ⟨⟨fun q => h1 (by omega), fun q => ?_⟩, by omega⟩
      rw [e32]
      exact hE.2.1 (h2 (by omega))) ejt
    have rec0 : ∀ k : Nat, (k : Int) < e → recsOK f g k lv (TYR id h o lv 0 ps ek :: rs) := fun k hk => by
      refine ⟨⟨by show h ≤ 1300; omega, by show o ≤ 450; omega, Or.inr (Or.inr (Or.inr ⟨rfl, by show (id : Int) < trI f; omega, by show (0 : Nat) ≤ 2; decide, Nat.le_refl _, by show (k : Int) < gv f 32 id; omega, fun _ j hj => ?_, fun _ q => fin1 k (by omega) q⟩))⟩, hE.1.1 k (by omega)⟩
      have hj : catchIn f j 400 (gv f 30 id) := hj
      have jL := hchf.inn hj
      obtain ⟨n1, n2, n3⟩ := hCL j jL
      obtain ⟨m1, m2⟩ := kh.2.2.2.2.2 j n1 (by omega)
      have f36 : gv f 36 j = gv W 36 j := by unfold gv; rw [(hA.2.2.2.2.2.2.2 j n1 (by omega)).2.1]
      have f35 : gv f 35 j = gv u 35 j := by unfold gv; rw [(Au.2.2.2.2.2.2.2 j n1 n2).1]
      have es : ((gv W 36 j).toNat : Int) = gv W 36 j := Int.toNat_of_nonneg (by omega)
      refine ⟨by omega, by omega, ?_, ?_⟩
      · rw [f36, hg]
        exact (hC (gv W 36 j).toNat (by omega) (by omega)).mpr ⟨j, n1, by omega, by omega⟩
      · rw [f35]
        exact (fl1 j jL).mono (Nat.le_refl _) (by omega)
    obtain ⟨flb, d0⟩ := bd rec0
    refine ⟨⟨by omega, by omega, fun _ => ⟨(h, o, lv, false, rs), hT _ _ (Or.inr (Or.inr ⟨rfl, rfl⟩)), rfl, Nat.le_refl _, rfl, rfl, Or.inr ⟨Nat.le_refl _, Int.le_refl _⟩⟩⟩, fun k c q => ?_⟩
    rcases q with (q | q) | (q | ⟨q1, q2⟩)
    · exact d0 k c q
    · exact d1 k c q
    · exact d2 k c q
    · subst q1
      subst q2
      refine hx.good (fun q => by cases q) (okJ_31 (c := (h, o, lv, false, rs)) p1 ⟨by rw [p2]; omega, by rw [p2]; show (id : Int) < trI f; omega, ps, ek, ?_⟩) (hE.1.1 _ (by omega))
      show FL f g lv (((cdI s + 1).toNat : Int) + 1) (((cdI s + 1).toNat : Int) + 1) h o ((4, (gv f 22 (cdI s + 1).toNat).toNat, 0, h, o, lv, ps, ek) :: rs)
      have e1 : (((cdI s + 1).toNat : Int) + 1) = cdI s + 2 := by omega
      rw [e1, p2, Int.toNat_natCast]
      exact flb
  exact COD.step hA hx cs.1 (by omega) hW1 (fun g _ hE => hE.1.1) c31
