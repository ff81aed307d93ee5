/-! reading: lock -/
theorem TBL.i52 (u : RS) (v : Int32) : TBL u (u.setI 52 v) := ⟨fun _ _ => rfl, rfl, fun _ _ h _ _ => if_neg (by omega)⟩
/-- inside a record that is no arms' and no try's -/
theorem EJ.rec {s s1 v W f : RS} {g : Gh} {h o lv : Nat} {rs : List Rec} {r : Rec} (hE : EJ s W f g h o lv rs) (hg : STG v W) (hn : TN v) (hs : cdI s ≤ cdI s1) (hgo : goI W = goI v) (hd : ∀ γ : Nat, (γ : Int) < goI W → (gv W 47 γ).toNat ≤ rs.length) (hk : r.k = 1 ∨ r.k = 2) (ho : r.o = o) : EJ s1 v f g h o lv (r :: rs) := by
  intro γ b k a1 a2 a3
  have hγ : (γ : Int) < goI W := by have := a1.1; omega
  obtain ⟨vt, j1, j2, j3⟩ := JE.stg (lv' := lv) hE hg hn hs (Nat.le_refl _) hγ a1 a2 a3
  have e47 : gv W 47 γ = gv v 47 γ := by unfold gv; rw [(hg.2.2.1 γ hγ).2.1]
  have dl := hd γ hγ
  rw [e47] at dl
  have nl : ¬ rs.length + 1 ≤ (gv v 47 γ).toNat := by omega
  have n4 : ¬ r.k = 4 := by rcases hk with q | q <;> (rw [q]; decide)
  refine ⟨vt, j1, Or.inr ⟨by rcases hk with q | q <;> (rw [q]; decide), fun q => absurd q n4, j2⟩, fun z1 z2 => ?_⟩
  have z3 : arr f g (gv v 47 γ).toNat rs := by
    rcases z2 with q | q
    · exact absurd q nl
    · exact q.2
  obtain ⟨t1, t2, t3⟩ := j3 z1 z3
  refine ⟨t1, t2, fun q => ?_⟩
  obtain ⟨c, d1, d2, d3, d4, d5, d6⟩ := t3 q
  refine ⟨c, d1, d2, ?_, d4, ?_, d6⟩
  · show oA (gv v 47 γ).toNat o (r :: rs) ≤ c.o
    have : oA (gv v 47 γ).toNat o (r :: rs) = oA (gv v 47 γ).toNat r.o rs := if_neg nl
    rw [this, ho]; exact d3
  · have : dA (gv v 47 γ).toNat (r :: rs) = dA (gv v 47 γ).toNat rs := if_neg nl
    rw [this]; exact d5
theorem YE.rec {s V : RS} {rs : List Rec} {r : Rec} (h : YE s rs) (hg : goI V = goI s) (h44 : bel 44 (goI s) s V) (h47 : bel 47 (goI s) s V) (hd : ∀ γ : Nat, (γ : Int) < goI s → (gv s 47 γ).toNat ≤ rs.length) : YE V (r :: rs) := by
  intro γ g1 g2 g3
  have gs : (γ : Int) < goI s := by omega
  have e : gv V 47 γ = gv s 47 γ := by unfold gv; rw [h47 γ gs]
  obtain ⟨y1, r', q, y2, y3, y4⟩ := h γ gs (by rw [← h44 γ gs]; exact g2) ((NOARM.of hg h44 γ).mp g3)
  rw [e]
  refine ⟨y1, r', q, ?_, y3, y4⟩
  have : dA (gv s 47 γ).toNat (r :: rs) = dA (gv s 47 γ).toNat rs := if_neg (by have := hd γ gs; omega)
  rw [this]; exact y2
theorem TS.lock {t : Nat} {s B2 v W : RS} {x : Int32} (hI : INV s) (kB : KP t s B2) (cB : cdI B2 = cdI s + 2) (B21 : B2.a 21 (cdI s).toNat = 1) (B21' : B2.a 21 (cdI s + 1).toNat = 26) (B22' : B2.a 22 (cdI s + 1).toNat = x) (hx8 : 0 ≤ x.toInt ∧ x.toInt < 8) (B38 : B2.i 38 = s.i 38) (dB : deI B2 = deI s + 1) (gB : goI B2 = goI s) (fB : fr s ≤ fr B2) (d250 : deI s + 1 ≤ 250) (ts : TS B2 v) (k2 : KP t B2 v) (i2 : INV v) (s2 : SAME B2 v) (f2 : fr B2 ≤ fr v) (kW : KP t v W) (cW : cdI W = cdI v + 1) (gW : goI W = goI v) (wW : waI W = waI v) (W21 : W.a 21 (cdI v).toNat = 27) (hr : W.i 75 = v.i 75) : TS s W := by
  intro f C hA hC h o lv rs hx hy
  have cs := hI.cd
  have cv := i2.cd
  have fv := i2.1.f0
  have le2 := k2.2.1.1
  have ek1 : ((cdI s + 1).toNat : Int) = cdI s + 1 := Int.toNat_of_nonneg (by omega)
  have ekv : ((cdI v).toNat : Int) = cdI v := Int.toNat_of_nonneg cv.1
  have g2 : goI v = goI B2 := s2.go
  have L2 : LAT noZ B2 v W := (LAT.rf noZ B2 v).kp kW i2.tn (by omega)
  obtain ⟨A2, C2⟩ := L2.use hA hC kB k2
  obtain ⟨x1, x2, x3, x4, x5, x6, x7, x8⟩ := id hx
  have t6 := hI.2.2.2.1.2.2.2.2.2.2.1
  have hd0 : ∀ γ : Nat, (γ : Int) < goI s → (gv s 47 γ).toNat ≤ rs.length := fun γ hγ => by have := t6 γ hγ; omega
  have kg := kB.2.2.2.2.2.2.1
  have kgW := ((kB.tr k2 (Nat.le_refl _)).tr kW (Nat.le_refl _)).2.2.2.2.2.2.1
  have hdW : ∀ γ : Nat, (γ : Int) < goI W → (gv W 47 γ).toNat ≤ rs.length := fun γ hγ => by
    have e : gv W 47 γ = gv s 47 γ := by unfold gv; rw [kgW.2.2.1 γ (by omega)]
    rw [e]; exact hd0 γ (by omega)
  have v52 : v.i 52 = B2.i 52 := s2.2.2.1
  have cxB : CX B2 h o lv ((1, x.toInt.toNat, 0, h, o, lv, false, false) :: rs) := ⟨by show ((rs.length + 1 : Nat) : Int) = deI B2; omega, by omega, by omega, by omega, by show 2 * ((0 + wv rs : Nat) : Int) ≤ fr B2; omega, ⟨Or.inr rfl, x6⟩, by omega, by omega⟩
  have c2 := ts f C A2 C2 h o lv ((1, x.toInt.toNat, 0, h, o, lv, false, false) :: rs) cxB (hy.rec gB kg.2.1 kg.2.2.1 hd0)
  have e26 : W.a 21 (cdI s + 1).toNat = 26 := by rw [kW.2.1.2.1 _ (by omega), k2.2.1.2.1 _ (by omega)]; exact B21'
  have e26x : W.a 22 (cdI s + 1).toNat = x := by rw [kW.2.1.2.2.1 _ (by omega), k2.2.1.2.2.1 _ (by omega)]; exact B22'
  obtain ⟨p1, p2, p3, p4⟩ := hA.cell (k := (cdI s + 1).toNat) (o := 26) (x := x) (by omega) (by omega) e26 e26x (by decide)
  obtain ⟨q1, q2, q3, q4⟩ := hA.cell (k := (cdI v).toNat) (o := 27) (by omega) (by omega) W21 rfl (by decide)
  have rok : ∀ (g : Gh) (k : Nat), recsOK f g k lv rs → recsOK f g k lv ((1, x.toInt.toNat, 0, h, o, lv, false, false) :: rs) := fun g k hk => ⟨⟨show h ≤ 1300 by omega, show o ≤ 450 by omega, Or.inl ⟨rfl, show x.toInt.toNat < 8 by omega⟩⟩, hk⟩
  have env : ∀ g : Gh, ENS s W f h o lv rs g → (v.i 75 = 1 → FL f g lv (cdI v) (cdI v) h o ((1, x.toInt.toNat, 0, h, o, lv, false, false) :: rs)) → ENS B2 v f h o lv ((1, x.toInt.toNat, 0, h, o, lv, false, false) :: rs) g := fun g hE hx' => by
    refine ⟨⟨fun k hk => rok g k (hE.1.1 k (by omega)), (hE.1.mid kB B38 (by omega) : ENB B2 v f g lv rs).2⟩, hx', ?_⟩
    exact hE.2.2.rec (STG.kp kW gW wW) i2.tn (by omega) gW hdW (Or.inl rfl) rfl
  have X : COD f C (cdI B2) h o lv ((1, x.toInt.toNat, 0, h, o, lv, false, false) :: rs) (ENS s W f h o lv rs) := by
    by_cases cr : v.i 75 = 1
    · have cJ : COD f C (cdI v).toNat h o lv ((1, x.toInt.toNat, 0, h, o, lv, false, false) :: rs) (ENS s W f h o lv rs) := by
        have cxv : CX v h o lv ((1, x.toInt.toNat, 0, h, o, lv, false, false) :: rs) := cxB.up h v52 f2 (by omega) (by omega)
        refine COD.ins cxv q4 (fun g _ hE => ⟨?_, rok g _ (hE.1.1 _ (by omega))⟩)
        have hF2 : FL f g lv (((cdI v).toNat : Int) + 1) (((cdI v).toNat : Int) + 1) h o rs := by
          have := hE.2.1 (hr.trans cr)
          rw [cW] at this
          rw [ekv]; exact this
        exact okJ_27 (c := (h, o, lv, false, (1, x.toInt.toNat, 0, h, o, lv, false, false) :: rs)) q1 ⟨_, rs, rfl, rfl, hF2⟩
      exact COD.seq c2 cJ (fun g _ hE => hE) (fun g _ hE hF => env g hE (fun _ => by rw [ekv] at hF; exact hF))
    · exact c2.imp (fun g _ hE => env g hE (fun q => absurd q cr))
  have ct : COD f C (cdI s + 1).toNat h o lv rs (ENS s W f h o lv rs) := by
    have c26 : COD f C (cdI s + 1).toNat h o lv rs (fun g => ENS s W f h o lv rs g ∧ FL f g lv (cdI B2) (cdI B2) h o ((1, x.toInt.toNat, 0, h, o, lv, false, false) :: rs)) := by
      refine COD.ins hx p4 (fun g _ hE => ⟨?_, hE.1.1.1 _ (by omega)⟩)
      have hF1 : FL f g lv (((cdI s + 1).toNat : Int) + 1) (((cdI s + 1).toNat : Int) + 1) h o ((1, x.toInt.toNat, 0, h, o, lv, false, false) :: rs) := by
        have := hE.2
        rw [cB] at this
        have e : (((cdI s + 1).toNat : Int) + 1) = cdI s + 2 := by omega
        rw [e]; exact this
      refine okJ_26 (c := (h, o, lv, false, rs)) p1 ⟨by rw [p2]; exact hx8.1, by rw [p2]; exact hx8.2, ?_⟩
      rw [p2]
      exact hF1
    exact COD.seq c26 X (fun g _ hE => hE) (fun g _ hE hF => ⟨hE, hF⟩)
  rw [ek1] at ct
  refine COD.step hA hx cs.1 (by omega) ?_ (fun g _ hE => hE.1.1) ct
  rw [kW.2.1.2.1 _ (by omega), k2.2.1.2.1 _ (by omega)]
  exact B21
/-- a throw of its own: what follows is never reached -/
theorem TS.raise {s W : RS} (hI : INV s) (cW : cdI s + 2 ≤ cdI W) (e0 : W.a 21 (cdI s).toNat = 1) (e21 : W.a 21 (cdI s + 1).toNat = 20) (e22 : W.a 22 (cdI s + 1).toNat = 1) (i3 : 4 ≤ (W.i 3).toInt) : TS s W := by
  intro f C hA hC h o lv rs hx hy
  have cs := hI.cd
  have ek : ((cdI s + 1).toNat : Int) = cdI s + 1 := Int.toNat_of_nonneg (by omega)
  obtain ⟨g1, g2, g3, g4⟩ := hA.cell (k := (cdI s + 1).toNat) (o := 20) (x := 1) (by omega) (by omega) e21 e22 (by decide)
  have e1 : (1 : Int32).toInt = 1 := by decide
  have hi3 := hA.2.2.2.1
  have c3 : COD f C (cdI s + 1).toNat h o lv rs (ENS s W f h o lv rs) := COD.ins hx g4 (fun g hg' hE => ⟨okJ_20 (c := (h, o, lv, false, rs)) g1 (by show gv f 22 (cdI s + 1).toNat < (f.i 3).toInt; rw [g2, e1]; omega), hE.1.1 _ (by omega)⟩)
  rw [ek] at c3
  exact COD.step hA hx cs.1 (by omega) e0 (fun g _ hE => hE.1.1) c3
