/-! the class's reading: a switch ends -/
theorem JSH.c22 {H : HB} {x y : Int} {c : List Nat} {X : List (Nat × List Nat)} {P : List Nat} {lim : List Int} {s : CS} {v : Int32} (h : JSH H x y c c c X P lim s) (hv : s.i 32 = 0 → 0 ≤ v.toInt ∧ v.toInt ≤ ccI s ∧ lmh lim ≤ v.toInt) {x' : Int} (hx : s.i 32 = 0 → x - 4 * (ccI s - v.toInt) ≤ x') : JSH H x' y c c c X P lim (CS.setI s 22 v) := by
  have e : shs (CS.setI s 22 v) = CS.setI (shs s) 22 v := setI.cm s 22 34 v 20 (by decide)
  have cc : ccI (shs s) = ccI s := by unfold ccI; rw [shs.i s 22 (by decide)]
  refine ⟨?_, ?_⟩
  · have b := ADS.c22 s v
    refine h.1.of b.1 (b.2.2 0 (by decide) (by decide)) (fun j hj => b.2.1 j (by omega) (by omega)) (fun _ t t1 t2 => ?_)
    have e : tcI (CS.setI s 22 v) = tcI s := by unfold tcI; rw [b.2.1 21 (by decide) (by decide)]
    rw [e, b.2.2 17 (by decide) (by decide)]
    exact ⟨t1, t2⟩
  · rw [e]
    exact (JJ.c22 h.2.j (fun q => by rw [cc]; exact hv ((shs.i s 32 (by decide)).symm.trans q)) (fun q => by rw [cc]; exact hx ((shs.i s 32 (by decide)).symm.trans q))).k
theorem q_addCsE {N : Nat} {H : HB} {x y : Int} {c : List Nat} {X : List (Nat × List Nat)} {P : List Nat} {lim : List Int} {s : CS} (hx : x ≤ 5000) (hy : y ≤ 95) (hl : c.length ≤ 21) (x1 x2 : Int32) (hT : s.i 32 = 0 → (0 ≤ x1.toInt ∧ x1.toInt ≤ ccI s ∧ lmh lim ≤ x1.toInt ∧ ccI s ≤ 300) ∧ (∀ i : Nat, x1.toInt ≤ (i : Int) → (i : Int) < ccI s → ∃ k : Nat, (s.a 19 i).toInt = (k : Int) ∧ (k, c) ∈ X) ∧ ∃ k : Nat, x2.toInt = (k : Int) ∧ (k, c) ∈ X) : ∀ (n : Nat) (σ : CS) (x3 : Int32), ccI s - x3.toInt < n → ADS s σ → σ.i 22 = s.i 22 → (s.i 32 = 0 → x1.toInt ≤ x3.toInt ∧ x3.toInt ≤ ccI s) → (∃ z : Int, z ≤ 6000 ∧ (s.i 32 = 0 → z = x + 2 * (x3.toInt - x1.toInt)) ∧ JSH H z y c c c X P lim σ) → ok (f_X0_addCases_2 N (n + 1) σ x1 x2 x3) (fun R => JSH H (x + 2) y c c c X P lim R.2 ∧ ADS s R.2 ∧ R.2.i 22 = x1)
  | n, σ, x3, hn, ha, h22, h3, ⟨z, z1, z2, hj⟩ => by
    show ok (b_X0_addCases_2 N (f_X0_addCases_2 N n) σ x1 x2 x3) _
    unfold b_X0_addCases_2
    have e1 : (1 : Int32).toInt = 1 := by decide
    have e32 : σ.i 32 = s.i 32 := ha.2.1 32 (by decide) (by decide)
    have ecc : ccI σ = ccI s := by unfold ccI; rw [h22]
    refine ok_ite (fun q => ?_) (fun q => ?_)
    · have l := le_int q
      have l' : ccI σ ≤ x3.toInt := l
      have j0 : JSH H x y c c c X P lim (CS.setI σ 22 x1) := hj.c22 (fun nf => by
        obtain ⟨t1, -⟩ := hT (e32 ▸ nf)
        omega) (fun nf => by
        have nf' : s.i 32 = 0 := e32 ▸ nf
        have := z2 nf'
        have := h3 nf'
        omega)
      have a0 : ADS s (CS.setI σ 22 x1) := ha.tr (ADS.c22 σ x1)
      have c0 : (CS.setI σ 22 x1).i 22 = x1 := ci_at _ _ _
      refine ok_bind (q_add N _ 6 0) (fun p hp => ?_)
      have j1 := j0.add hp (by omega) (by omega) (fun _ => hl) (fun _ _ _ _ _ => IOK.fall (by decide))
      have a1 := a0.tr hp.ads
      have c1 : p.2.i 22 = x1 := (hp.2.1 22 (by decide)).trans c0
      refine ok_bind (q_add N _ 30 x2) (fun r hr => ok_some ⟨?_, a1.tr hr.ads, (hr.2.1 22 (by decide)).trans c1⟩)
      have j2 := j1.add hr (by omega) (by omega) (fun _ => hl) (fun nf DT KT qX _ => by
        obtain ⟨-, -, k, k1, k2⟩ := hT ((a1.2.1 32 (by decide) (by decide)).symm.trans nf)
        exact IOK.jmp (by decide) k1 k2 qX)
      exact j2.w (by omega) (Int.le_refl _)
    · have l : x3.toInt < (σ.i 22).toInt := lt_int (Int32.not_le.mp q)
      have l' : x3.toInt < ccI s := by rw [← ecc]; exact l
      have b1 := Int32.toInt_lt (σ.i 22)
      have b2 := Int32.le_toInt x3
      have es : (x3 + 1).toInt = x3.toInt + 1 := by rw [toInt_add] <;> rw [e1] <;> omega
      obtain ⟨n', rfl⟩ : ∃ n', n = n' + 1 := ⟨n - 1, by omega⟩
      refine ok_bind (q_add N _ 0 _) (fun p hp => ?_)
      have j1 := hj.add hp (by omega) (by omega) (fun _ => hl) (fun _ _ _ _ _ => IOK.fall (by decide))
      have a1 := ha.tr hp.ads
      have c1 : p.2.i 22 = s.i 22 := (hp.2.1 22 (by decide)).trans h22
      refine ok_bind (q_add N _ 34 _) (fun r hr => ?_)
      have j2 := j1.add hr (by omega) (by omega) (fun _ => hl) (fun nf DT KT qX _ => by
        have nf' : s.i 32 = 0 := (a1.2.1 32 (by decide) (by decide)).symm.trans nf
        obtain ⟨t1, t2, -⟩ := hT nf'
        have t3 := h3 nf'
        obtain ⟨k, k1, k2⟩ := t2 x3.toInt.toNat (by omega) (by omega)
        have eg : gAt (p.2.a 19) 320 x3 = s.a 19 x3.toInt.toNat := by
          rw [a1.2.2 19 (by decide) (by decide)]
          unfold gAt
          have ib' : ib x3 320 := ⟨by omega, by omega⟩
          rw [if_pos ib']
          have cl := clampI ib'.1
          have ei : x3.toNatClampNeg = x3.toInt.toNat := by omega
          rw [ei]
        rw [eg]
        exact IOK.jmp (by decide) k1 k2 qX)
      have a2 := a1.tr hr.ads
      have c2 : r.2.i 22 = s.i 22 := (hr.2.1 22 (by decide)).trans c1
      refine q_addCsE hx hy hl x1 x2 hT n' r.2 (x3 + 1) (by omega) a2 c2 (fun nf => by have := h3 nf; omega) ?_
      by_cases nf : s.i 32 = 0
      · have t1 := (hT nf).1
        have t2 := h3 nf
        have t3 := z2 nf
        exact ⟨z + 1 + 1, by omega, fun _ => by omega, j2⟩
      · exact ⟨x, by omega, fun w => absurd w nf, JSH.flt j2.1 (fun w => absurd ((a2.2.1 32 (by decide) (by decide)).symm.trans w) nf)⟩
  termination_by n => n
theorem q_addCasesE {N : Nat} {H : HB} (hN : 10000000000 ≤ N) {x y : Int} {c : List Nat} {X : List (Nat × List Nat)} {P : List Nat} {lim : List Int} {s : CS} (hx : x ≤ 5000) (hy : y ≤ 95) (hl : c.length ≤ 21) (h : JSH H x y c c c X P lim s) (x1 x2 : Int32) (hT : s.i 32 = 0 → (0 ≤ x1.toInt ∧ x1.toInt ≤ ccI s ∧ lmh lim ≤ x1.toInt) ∧ (∀ i : Nat, x1.toInt ≤ (i : Int) → (i : Int) < ccI s → ∃ k : Nat, (s.a 19 i).toInt = (k : Int) ∧ (k, c) ∈ X) ∧ ∃ k : Nat, x2.toInt = (k : Int) ∧ (k, c) ∈ X) : ok (f_X0_addCases N s x1 x2) (fun R => JSH H (x + 2) y c c c X P lim R.2 ∧ ADS s R.2 ∧ R.2.i 22 = x1) := by
  unfold f_X0_addCases
  obtain ⟨N', rfl⟩ : ∃ N', N = N' + 1 := ⟨N - 1, by omega⟩
  have b1 := Int32.toInt_lt (s.i 22)
  have b2 := Int32.le_toInt x1
  refine q_addCsE hx hy hl x1 x2 (fun nf => ?_) N' s x1 (by show (s.i 22).toInt - x1.toInt < N'; omega) (ADS.rf s) rfl (fun nf => ⟨Int.le_refl _, (hT nf).1.2.1⟩) ⟨x, by omega, fun _ => by omega, h⟩
  obtain ⟨t1, t2⟩ := hT nf
  refine ⟨⟨t1.1, t1.2.1, t1.2.2, ?_⟩, t2⟩
  have n1 := (h.2.2 ((shs.i s 32 (by decide)).trans nf)).2.2.1
  have cc : ccI (shs s) = ccI s := by unfold ccI; rw [shs.i s 22 (by decide)]
  have pl : plI (shs s) = plI s := by unfold plI; rw [shs.i s 44 (by decide)]
  have a := h.1.2.2.1.2.1
  have b := h.1.2.2.1.1
  have : plI s ≤ 900 := by unfold plI; omega
  omega
/-- targets whose context the rows tell -/
theorem JSH.exts {H : HB} {x y : Int} {cD c d : List Nat} {X : List (Nat × List Nat)} {P : List Nat} {lim : List Int} {s : CS} (h : JSH H x y cD c d X P lim s) (b : List Nat) : ∀ (L : List Int32), (s.i 32 = 0 → ∀ (DT : Nat → List Nat) (KT : Nat → Prop), (∀ n : Nat, (n : Int) = cnI s → RCH (shs s) DT KT n c lim) → ∀ t ∈ L, TTc (tcI s) DT KT t b) → JSH H x y cD c d (L.map (fun t => (t.toInt.toNat, b)) ++ X) P lim s
  | [], _ => h
  | t :: L, hT => by
    have ih := h.exts b L (fun q DT KT qR u hu => hT q DT KT qR u (List.mem_cons_of_mem _ hu))
    exact ⟨h.1, ih.2.ext t b (fun q DT KT _ qR => by
      have := hT ((shs.i s 32 (by decide)).symm.trans q) DT KT qR t (List.mem_cons_self ..)
      exact this)⟩
theorem AIM.kp {s R : CS} {t : Int32} (h : AIM s R t) (h0 : 0 ≤ szI s) {k : Nat} (hk : ¬ (s.a 17 k).toInt = -1) : ¬ (R.a 17 k).toInt = -1 := by
  rw [h.2.2.2]
  unfold gPut
  have : 0 ≤ (s.i 20).toInt := h0
  by_cases c : ib t 1024
  · rw [if_pos c]
    show ¬ (if k = t.toNatClampNeg then s.i 20 else s.a 17 k).toInt = -1
    by_cases e : k = t.toNatClampNeg
    · rw [if_pos e]; omega
    · rw [if_neg e]; exact hk
  · rw [if_neg c]; exact hk
