/-! the class's reading: assert; jumps out of rows -/
theorem q_claim {N : Nat} {H : HB} (hN : 1000 ≤ N) {k : Int} {E1 : CS → Option (Unit × CS)} {E2 : CS → Option (Int32 × CS)} (hE : EC H k E1) (hE2 : EC2 H k E2) {x y : Int} {c : List Nat} {X : List (Nat × List Nat)} {P : List Nat} {lim : List Int} {s : CS} (hx : x ≤ 4000) (hy : y + 3 * k ≤ 87 ∧ 0 ≤ k) (h : JJ H x y c X P lim s) (h0 : S0G s) (hk : 24 - sgI s ≤ k) (ht : 200 ≤ (s.i 43).toInt) : ok (f_X7_claim N E1 E2 s) (fun R => STQ H (x - 20) y X P lim s R.2) := by
  have nf := h0.1
  unfold f_X7_claim
  refine ok_bind (q_newTarget N s) (fun p hp => ?_)
  obtain ⟨t1, t2⟩ := hp
  have j1 : JJ H x (y + 1) c _ _ lim p.2 := h.new t1 (by omega) (by omega) c
  have et := NTG.t h.k nf t2
  have f1 := t1.f
  obtain ⟨t, ht'⟩ : ∃ t, t = (tcI s).toNat := ⟨_, rfl⟩
  rw [← ht'] at j1 et
  have mt : (t, c) ∈ (t, c) :: X := List.mem_cons_self ..
  refine ok_bind (q_advC hN j1.1) (fun q hq => ?_)
  obtain ⟨j2, e2⟩ := j1.word hq (fun _ => by rw [f1.2.1]; exact ht)
  have e2' : q.2.i 32 = 0 → SX 2 3 0 s q.2 := fun z => ((t1.sx nf).tr (e2 z)).w (by omega) (by omega) (by omega)
  refine ok_bind (q_add N q.2 35 p.1) (fun r hr => ?_)
  have j3 := j2.add hr (by omega) (by omega) (fun _ DT KT z _ _ => IOK.jmp (by decide) et mt z)
  have e3 : r.2.i 32 = 0 → SX 2 3 0 s r.2 := fun z => ((e2' (hr.f32.1.symm.trans z)).tr (hr.sx (hr.f32.1.symm.trans z))).w (by omega) (by omega) (by omega)
  refine ok_bind (q_condition (E1 := E1) hN hE2 _ _ c _ _ lim r.2 (by omega) (by omega) j3 (fun z => by have := (e3 z).2.2.1; omega)) (fun u hu => ?_)
  obtain ⟨⟨j4, e4⟩, -⟩ := hu
  refine ok_bind (q_add N u.2 5 0) (fun a ha => ?_)
  have j5 := j4.add ha (by omega) (by omega) (fun _ _ _ _ _ _ => IOK.fall (by decide))
  refine ok_bind (q_add N a.2 31 p.1) (fun b hb => ?_)
  have j6 := j5.add hb (by omega) (by omega) (fun _ DT KT z _ _ => IOK.jmp (by decide) et mt z)
  have e6 : b.2.i 32 = 0 → SX 2 3 0 s b.2 := fun z => by
    have z1 := hb.f32.1.symm.trans z
    have z2 := ha.f32.1.symm.trans z1
    exact ((((e3 (e4 z2).1).tr (e4 z2).sx).tr (ha.sx z2)).tr (hb.sx z1)).w (by omega) (by omega) (by omega)
  have e74 : ∀ (v : CS), JJ H (x - 200) (y - 2) c ((t, c) :: X) (t :: P) lim v → (v.i 32 = 0 → SX 2 0 0 s v) → ok (f_X7_claim_74 N E1 E2 v p.1) (fun R => STQ H (x - 20) y X P lim s R.2) := fun v jv hv => by
    unfold f_X7_claim_74
    refine ok_bind (q_add N v 63 3) (fun d hd => ?_)
    have k1 := jv.add hd (by omega) (by omega) (fun _ _ _ _ _ _ => IOK.stop (by decide))
    refine ok_bind (q_aim N d.2 p.1) (fun e he => ?_)
    have k2 : JJ H (x - 200 + 1) (y - 2) c ((t, c) :: X) P lim e.2 := k1.aim he (by omega) (by omega) (fun _ => ⟨t, et, mt⟩) (fun k hk => by
      rcases List.mem_cons.mp hk with e | e
      · right; rw [e]; exact et.symm
      · exact Or.inl e)
    refine ok_bind (q_expJ hN k2 59 (by decide)) (fun f hf => ok_some ?_)
    obtain ⟨k3, e3⟩ := hf
    refine STQ.pl (p := 1) (g := 0) ((k3.sub (fun q hq => List.mem_cons_of_mem _ hq)).w (by omega) (by omega)) h0 (fun z => ?_) (by omega) (by omega)
    have z1 := (e3 z).1
    have z2 := he.f.1.symm.trans z1
    have z3 := hd.f32.1.symm.trans z2
    exact ((((hv z3).tr (hd.sx z3)).tr (he.sx z2)).tr (e3 z).sx).w (by omega) (by omega) (by omega)
  refine ok_bind (q_skip hN j6.1 58) (fun v hv => ?_)
  rcases hv with ⟨v1, v2, v3⟩ | ⟨v1, v2, v3⟩
  · rw [if_pos v1, v2]
    refine ok_bind (q_add N b.2 0 0) (fun d hd => ?_)
    have j7 := j6.add hd (by omega) (by omega) (fun _ _ _ _ _ _ => IOK.fall (by decide))
    refine e74 d.2 (j7.w (by omega) (by omega)) (fun z => ?_)
    have z1 := hd.f32.1.symm.trans z
    exact ((e6 z1).tr (hd.sx z1)).w (by omega) (by omega) (by omega)
  · rw [v1, if_neg (by decide)]
    obtain ⟨j7, e7⟩ := j6.tk v3 (fun _ => by rw [v2]; decide)
    have e7' : v.2.i 32 = 0 → SX 2 0 0 s v.2 := fun z => ((e6 (e7 z).1).tr (e7 z).sx).w (by omega) (by omega) (by omega)
    refine ok_bind (q_expression (E2 := E2) hN hE _ _ c _ _ lim v.2 (by omega) (by omega) j7 (fun z => by have := (e7' z).2.2.1; omega)) (fun d hd => ?_)
    obtain ⟨j8, e8⟩ := hd
    exact e74 d.2 (j8.w (by omega) (by omega)) (fun z => ((e7' (e8 z).1).tr (e8 z).sx).w (by omega) (by omega) (by omega))
theorem ROW1.ext {s : CS} {DT : Nat → List Nat} {KT : Nat → Prop} {a : Nat} {c0 c : List Nat} {lim lim' : List Int} (h : ROW1 s DT KT a c0 c lim lim') : ∃ r : List Nat, c = r ++ c0 := by
  obtain ⟨h1, h2, h3⟩ := h
  rcases h3 with ⟨z1, z2, e⟩ | ⟨z1, z2, -⟩ | ⟨z1, z2, -⟩ | ⟨z1, z2, -⟩ | ⟨z1, z2, -⟩ | ⟨z1, z2, -⟩ | ⟨z1, z2, -⟩ | ⟨z1, z2, -⟩ | ⟨z1, z2, -⟩ | ⟨z1, z2, -⟩ | ⟨z1, z2, -⟩ | ⟨z1, z2, -⟩
  · exact ⟨[], z2⟩
  · exact ⟨[], z2⟩
  · exact ⟨[], z2⟩
  · exact ⟨[], z2⟩
  · exact ⟨[], z2⟩
  · exact ⟨[], z2⟩
  · exact ⟨[], z2⟩
  · exact ⟨[0], z2⟩
  · exact ⟨[1], z2⟩
  · exact ⟨[2], z2⟩
  · exact ⟨[2], z2⟩
  · exact ⟨[3], z2⟩
/-- a row among the others -/
theorem RCH.at {s : CS} {DT : Nat → List Nat} {KT : Nat → Prop} : ∀ {n : Nat} {c : List Nat} {L : List Int}, RCH s DT KT n c L → ∀ i a : Nat, i < n → s.r 51 i = some a → ∃ (c0 c1 : List Nat) (L1 L0 : List Int) (r : List Nat), ROW1 s DT KT a c0 c1 L1 L0 ∧ c = r ++ c0
  | 0, _, _, _, i, a, hi, _ => by omega
  | n + 1, c, L, ⟨b, c0, L', h1, h2, h3, h4⟩, i, a, hi, ea => by
    obtain ⟨r0, e0⟩ := h3.ext
    by_cases e : i = n
    · rw [e, h1] at ea
      cases ea
      exact ⟨c0, c, L, L', r0, h3, e0⟩
    · obtain ⟨d0, d1, L1, L0, r, g1, g2⟩ := RCH.at h4 i a (by omega) ea
      exact ⟨d0, d1, L1, L0, r0 ++ r, g1, by rw [e0, g2, List.append_assoc]⟩
theorem lv32 {t g : Int32} (ht : 0 ≤ t.toInt ∧ t.toInt ≤ 2000) (hg : 0 ≤ g.toInt ∧ g.toInt < 32) : (t * 32 + g) / 32 = t ∧ ((t * 32 + g) - (t * 32 + g) / 32 * 32).toInt = g.toInt := by
  have e32 : (32 : Int32).toInt = 32 := by decide
  have m1 : (t * 32).toInt = t.toInt * 32 := by
    rw [Int32.toInt_mul, e32, Int.bmod_eq_of_le (by omega) (by omega)]
  have a1 : (t * 32 + g).toInt = t.toInt * 32 + g.toInt := by rw [toInt_add] <;> rw [m1] <;> omega
  have d1 : (t * 32 + g) / 32 = t := by
    refine Int32.toInt_inj.mp ?_
    rw [Int32.toInt_div, a1, e32, Int.tdiv_eq_ediv_of_nonneg (by omega), Int.bmod_eq_of_le (by omega) (by omega)]
    omega
  refine ⟨d1, ?_⟩
  rw [d1, toInt_sub] <;> rw [a1, m1] <;> omega
theorem drop_suf {r c0 : List Nat} : (r ++ c0).drop ((r ++ c0).length - c0.length) = c0 := by
  have e : (r ++ c0).length - c0.length = r.length := by rw [List.length_append]; omega
  rw [e, List.drop_left]
/-- out of frames, or a plain jump -/
theorem q_leave {N : Nat} {H : HB} {x y : Int} {cD c d c1 : List Nat} {X : List (Nat × List Nat)} {P : List Nat} {lim : List Int} {s : CS} (h : JK H x y cD c d X P lim s) (t g : Int32) (hx : x ≤ 5000) (hy : y ≤ 95) (hl : s.i 32 = 0 → (s.i 38).toInt = (cD.length : Int) ∧ cD.length ≤ 21) (hT : s.i 32 = 0 → ∀ (DT : Nat → List Nat) (KT : Nat → Prop), (∀ q ∈ X, (q.1 : Int) < tcI s ∧ DT q.1 = q.2 ∧ ¬ KT q.1) → (∀ n : Nat, (n : Int) = cnI s → RCH s DT KT n c lim) → ∃ c0 r : List Nat, TTc (tcI s) DT KT t c0 ∧ g.toInt = (c0.length : Int) ∧ cD = r ++ c0) : ok (f_X7_leave N s t g) (fun R => JK H (x + 1) y c1 c d X P lim R.2 ∧ (R.2.i 32 = 0 → SX 0 0 0 s R.2) ∧ (∃ o v : Int32, ADD s R.2 o v)) := by
  unfold f_X7_leave
  refine ok_ite (fun ce => ?_) (fun ce => ?_)
  · refine ok_bind (q_add N s 30 t) (fun p hp => ok_some ⟨h.add hp (by omega) (by omega) (fun q => (hl q).2) (fun q DT KT qX qR _ => ?_), fun z => hp.sx (hp.f32.1.symm.trans z), 30, t, hp⟩)
    obtain ⟨c0, r, w1, w2, w3⟩ := hT q DT KT qX qR
    have e : c0 = cD := by
      have l := (hl q).1
      rw [← ce, w2] at l
      have l2 : c0.length = cD.length := by omega
      rw [w3, List.length_append] at l2
      have r0 : r = [] := List.length_eq_zero_iff.mp (by omega)
      rw [w3, r0]; rfl
    rw [e] at w1
    exact ⟨fun q => absurd q (by decide), fun _ => w1, fun q => absurd q (by decide), fun q => absurd q (by decide), fun q => absurd q (by decide), fun q => absurd q (by decide), fun q => absurd q (by decide), fun q => absurd q (by decide), fun q => absurd q (by decide), fun q => absurd q (by decide), fun q => absurd q (by decide), fun q => absurd q (by decide), by decide⟩
  · refine ok_bind (q_add N s 60 (t * 32 + g)) (fun p hp => ok_some ⟨h.add hp (by omega) (by omega) (fun q => (hl q).2) (fun q DT KT qX qR _ => ?_), fun z => hp.sx (hp.f32.1.symm.trans z), _, _, hp⟩)
    obtain ⟨c0, r, w1, w2, w3⟩ := hT q DT KT qX qR
    have sz := (h.2 q).2.sz h.1.2.2.1 h.1.2.2.2.2.2.2.1.1 (by omega) (by omega)
    have len := (hl q).2
    have l2 : c0.length ≤ cD.length := by rw [w3, List.length_append]; omega
    have lv := lv32 (t := t) (g := g) ⟨w1.1, by have := w1.2.1; omega⟩ (by omega)
    refine ⟨fun q => absurd q (by decide), fun q => absurd q (by decide), fun _ q => absurd q (by decide), fun _ q => absurd q (by decide), fun q => absurd q (by decide), fun q => absurd q (by decide), fun q => absurd q (by decide), fun q => absurd q (by decide), fun q => absurd q (by decide), fun q => absurd q (by decide), fun _ => ⟨c0.length, lv.2.trans w2, l2, ?_⟩, fun q => absurd q (by decide), by decide⟩
    rw [lv.1, w3, drop_suf]
    exact w1
