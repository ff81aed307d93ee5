/-! the class's reading: the head of a for -/
theorem JJ.perm {H : HB} {x y : Int} {c : List Nat} {X : List (Nat × List Nat)} {P P' : List Nat} {lim : List Int} {s : CS} (h : JJ H x y c X P lim s) (hP : s.i 32 = 0 → ∀ k ∈ P, k ∈ P') : JJ H x y c X P' lim s := JK.j (h.k.perm hP)
theorem q_fh76 {N : Nat} {H : HB} (hN : 1000 ≤ N) {k : Int} {E1 : CS → Option (Unit × CS)} {E2 : CS → Option (Int32 × CS)} (hE : EC H k E1) {x y : Int} {c : List Nat} {X X1 : List (Nat × List Nat)} {P : List Nat} {lim : List Int} {s0 s : CS} {x1 x2 x3 x4 x5 : Int32} {n1 n2 n3 n4 : Nat} (hx : x ≤ 4000) (hy : y + 3 * k ≤ 90 ∧ 0 ≤ k) (h : JJ H x y c X1 (n2 :: n3 :: n4 :: P) lim s) (h0 : S0G s0) (hk : 24 - sgI s0 ≤ k) (hs : s.i 32 = 0 → SX 3 3 1 s0 s) (hX : ∀ q ∈ X, q ∈ X1) (h1 : s.i 32 = 0 → x1.toInt = (n1 : Int) ∧ (n1, c) ∈ X1) (h2 : s.i 32 = 0 → x2.toInt = (n2 : Int) ∧ (n2, c) ∈ X1) (h3 : s.i 32 = 0 → x3.toInt = (n3 : Int) ∧ (n3, c) ∈ X1) (h4 : s.i 32 = 0 → x4.toInt = (n4 : Int) ∧ (n4, c) ∈ X1) (h5 : bo x5) : ok (f_X7_forHead_76 N E1 E2 s x1 x2 x3 x4 x5) (fun R => FHP H (x - 98) y c X P lim s0 R ∧ (R.2.i 32 = 0 → s.i 32 = 0)) := by
  unfold f_X7_forHead_76
  refine ok_bind (q_add N s 30 x3) (fun p hp => ?_)
  have j1 := h.add hp (by omega) (by omega) (fun z DT KT w _ _ => IOK.jmp (by decide) (h3 z).1 (h3 z).2 w)
  refine ok_bind (q_expJ hN j1 59 (by decide)) (fun q hq => ?_)
  obtain ⟨j2, e2⟩ := hq
  have e2' : q.2.i 32 = 0 → s.i 32 = 0 ∧ SX 3 3 1 s0 q.2 := fun z => by
    have z1 := (e2 z).1
    have z2 := hp.f32.1.symm.trans z1
    exact ⟨z2, (((hs z2).tr (hp.sx z2)).tr (e2 z).sx).w (by omega) (by omega) (by omega)⟩
  refine ok_bind (q_aim N q.2 x2) (fun r hr => ?_)
  have j3 : JJ H (x + 1 - 100) y c X1 (n3 :: n4 :: P) lim r.2 := j2.aimF hr (by omega) (by omega) (fun z => by
    have w := h2 (e2' z).1
    refine ⟨⟨n2, w⟩, fun k hk => ?_⟩
    rcases List.mem_cons.mp hk with e | e
    · right; rw [e]; exact w.1.symm
    · exact Or.inl e)
  have e3 : r.2.i 32 = 0 → s.i 32 = 0 ∧ SX 3 3 1 s0 r.2 := fun z => by
    have z1 := hr.f.1.symm.trans z
    exact ⟨(e2' z1).1, ((e2' z1).2.tr (hr.sx z1)).w (by omega) (by omega) (by omega)⟩
  have fin : ∀ u : CS, JJ H (x - 99) y c X1 (n3 :: n4 :: P) lim u → (u.i 32 = 0 → s.i 32 = 0 ∧ SX 3 3 1 s0 u) → ok (f_X7_forHead_113 N E1 E2 u x1 x2 x3 x4 x5) (fun R => FHP H (x - 98) y c X P lim s0 R ∧ (R.2.i 32 = 0 → s.i 32 = 0)) := fun u ju hu => by
    have w := q_fh113 (N := N) (E1 := E1) (E2 := E2) (X := X) hN (by omega) (by omega) ju h0 (fun z => (hu z).2) hX (fun z => h1 (hu z).1) (fun z => h2 (hu z).1) (fun z => h3 (hu z).1) (fun z => h4 (hu z).1) h5
    refine ok_imp w (fun R hR => ⟨?_, fun z => (hu (hR.2 z)).1⟩)
    obtain ⟨v, a, m, Y1, P1, r1, px, rest⟩ := hR.1
    exact ⟨v, a, m, Y1, P1, r1, px.w (by omega) (Int.le_refl _), rest⟩
  refine ok_bind (q_found r.2 2) (fun f hf => ?_)
  obtain ⟨f1, f2⟩ := hf
  rw [f1]
  rcases f2 with ⟨f2, f3⟩ | ⟨f2, f3⟩
  · rw [if_pos f2]; exact fin r.2 (j3.w (by omega) (Int.le_refl _)) e3
  · rw [f2, if_neg (by decide)]
    refine ok_bind (q_chHere (E2 := E2) hN hE (by omega) (by omega) j3 (fun z => by have := (e3 z).2.2.2.1; omega) 1 f3) (fun u hu => ?_)
    exact fin u.2 (hu.1.w (by omega) (by omega)) (fun z => ⟨(e3 (hu.2 z).1).1, ((e3 (hu.2 z).1).2.tr (hu.2 z).sx).w (by omega) (by omega) (by omega)⟩)
theorem FHP.w {H : HB} {x y x' y' : Int} {c : List Nat} {X : List (Nat × List Nat)} {P : List Nat} {lim : List Int} {s0 : CS} {R : Option Nat × CS} (h : FHP H x y c X P lim s0 R) (hx : x ≤ x') (hy : y ≤ y') : FHP H x' y' c X P lim s0 R := by
  obtain ⟨v, a, m, Y1, P1, r1, px, rest⟩ := h
  exact ⟨v, a, m, Y1, P1, r1, px.w hx hy, rest⟩
theorem q_forHead {N : Nat} {H : HB} (hN : 1000 ≤ N) {k : Int} {E1 : CS → Option (Unit × CS)} {E2 : CS → Option (Int32 × CS)} (hE : EC H k E1) (hE2 : EC2 H k E2) {x y : Int} {c : List Nat} {X : List (Nat × List Nat)} {P : List Nat} {lim : List Int} {s0 s : CS} (hx : x ≤ 4000) (hy : y + 3 * k ≤ 86 ∧ 0 ≤ k) (h : JJ H x y c X P lim s) (h0 : S0G s0) (hk : 24 - sgI s0 ≤ k) (hs : s.i 32 = 0 → SX 3 3 1 s0 s) : ok (f_X7_forHead N E1 E2 s) (fun R => FHP H x (y + 4) c X P lim s0 R ∧ (R.2.i 32 = 0 → s.i 32 = 0 ∧ s.i 43 = 59)) := by
  unfold f_X7_forHead
  refine ok_bind (q_newTarget N s) (fun p hp => ?_)
  obtain ⟨t1, t2⟩ := hp
  have j1 : JJ H x (y + 1) c _ _ lim p.2 := h.new t1 (by omega) (by omega) c
  have et : s.i 32 = 0 → p.1.toInt = ((tcI s).toNat : Int) := fun z => NTG.t h.k z t2
  have f1 := t1.f
  obtain ⟨t, ht'⟩ : ∃ t, t = (tcI s).toNat := ⟨_, rfl⟩
  rw [← ht'] at j1 et
  refine ok_bind (q_newTarget N p.2) (fun q hq => ?_)
  obtain ⟨u1, u2⟩ := hq
  have j2 : JJ H x (y + 1 + 1) c _ _ lim q.2 := j1.new u1 (by omega) (by omega) c
  have eu : s.i 32 = 0 → q.1.toInt = ((tcI p.2).toNat : Int) := fun z => NTG.t j1.k (f1.1.trans z) u2
  have f2 := u1.f
  obtain ⟨u, hu'⟩ : ∃ u, u = (tcI p.2).toNat := ⟨_, rfl⟩
  rw [← hu'] at j2 eu
  refine ok_bind (q_newTarget N q.2) (fun r hr => ?_)
  obtain ⟨v1, v2⟩ := hr
  have j3 : JJ H x (y + 1 + 1 + 1) c _ _ lim r.2 := j2.new v1 (by omega) (by omega) c
  have ev : s.i 32 = 0 → r.1.toInt = ((tcI q.2).toNat : Int) := fun z => NTG.t j2.k (f2.1.trans (f1.1.trans z)) v2
  have f3 := v1.f
  obtain ⟨v, hv'⟩ : ∃ v, v = (tcI q.2).toNat := ⟨_, rfl⟩
  rw [← hv'] at j3 ev
  refine ok_bind (q_newTarget N r.2) (fun a ha => ?_)
  obtain ⟨w1, w2⟩ := ha
  have j4 : JJ H x (y + 1 + 1 + 1 + 1) c _ _ lim a.2 := j3.new w1 (by omega) (by omega) c
  have ew : s.i 32 = 0 → a.1.toInt = ((tcI r.2).toNat : Int) := fun z => NTG.t j3.k (f3.1.trans (f2.1.trans (f1.1.trans z))) w2
  have f4 := w1.f
  obtain ⟨w, hw'⟩ : ∃ w, w = (tcI r.2).toNat := ⟨_, rfl⟩
  rw [← hw'] at j4 ew
  have na : a.2.i 32 = s.i 32 := f4.1.trans (f3.1.trans (f2.1.trans f1.1))
  have ta : a.2.i 43 = s.i 43 := f4.2.1.trans (f3.2.1.trans (f2.2.1.trans f1.2.1))
  have sa : s.i 32 = 0 → SX 3 3 1 s0 a.2 := fun z => (((((hs z).tr (t1.sx z)).tr (u1.sx (f1.1.trans z))).tr (v1.sx (f2.1.trans (f1.1.trans z)))).tr (w1.sx (f3.1.trans (f2.1.trans (f1.1.trans z))))).w (by omega) (by omega) (by omega)
  have mw : (w, c) ∈ (w, c) :: (v, c) :: (u, c) :: (t, c) :: X := List.mem_cons_self ..
  have mv : (v, c) ∈ (w, c) :: (v, c) :: (u, c) :: (t, c) :: X := List.mem_cons_of_mem _ (List.mem_cons_self ..)
  have mu : (u, c) ∈ (w, c) :: (v, c) :: (u, c) :: (t, c) :: X := List.mem_cons_of_mem _ (List.mem_cons_of_mem _ (List.mem_cons_self ..))
  have mt : (t, c) ∈ (w, c) :: (v, c) :: (u, c) :: (t, c) :: X := List.mem_cons_of_mem _ (List.mem_cons_of_mem _ (List.mem_cons_of_mem _ (List.mem_cons_self ..)))
  have hX : ∀ q ∈ X, q ∈ (w, c) :: (v, c) :: (u, c) :: (t, c) :: X := fun q hq => List.mem_cons_of_mem _ (List.mem_cons_of_mem _ (List.mem_cons_of_mem _ (List.mem_cons_of_mem _ hq)))
  generalize hXX : (w, c) :: (v, c) :: (u, c) :: (t, c) :: X = X1 at *
  clear hXX
  refine ok_bind (q_expect hN j4.1 59) (fun b hb => ?_)
  have hb' : JJ H (x - 100) (y + 4) c X1 (w :: v :: u :: t :: P) lim b.2 ∧ (b.2.i 32 = 0 → s.i 32 = 0 ∧ s.i 43 = 59 ∧ SX 3 3 1 s0 b.2) := by
    rcases hb with hf | ⟨b1, b2⟩
    · exact ⟨JJ.flt j4.1 hf, fun q => absurd q hf.2.2.2.1⟩
    · obtain ⟨jb, eb⟩ := j4.tk b2 (fun _ => by rw [b1]; decide)
      exact ⟨jb.w (Int.le_refl _) (by omega), fun z => ⟨na.symm.trans (eb z).1, ta.symm.trans b1, ((sa (na.symm.trans (eb z).1)).tr (eb z).sx).w (by omega) (by omega) (by omega)⟩⟩
  obtain ⟨j5, e5⟩ := hb'
  refine ok_bind (q_aim N b.2 p.1) (fun d hd => ?_)
  have j6 : JJ H (x - 100) (y + 4) c X1 (u :: v :: w :: P) lim d.2 := j5.aimF hd (by omega) (by omega) (fun z => by
    have z1 := (e5 z).1
    refine ⟨⟨t, et z1, mt⟩, fun k hk => ?_⟩
    rcases List.mem_cons.mp hk with e | e
    · left; rw [e]; exact List.mem_cons_of_mem _ (List.mem_cons_of_mem _ (List.mem_cons_self ..))
    · rcases List.mem_cons.mp e with e | e
      · left; rw [e]; exact List.mem_cons_of_mem _ (List.mem_cons_self ..)
      · rcases List.mem_cons.mp e with e | e
        · left; rw [e]; exact List.mem_cons_self ..
        · rcases List.mem_cons.mp e with e | e
          · right; rw [e]; exact (et z1).symm
          · left; exact List.mem_cons_of_mem _ (List.mem_cons_of_mem _ (List.mem_cons_of_mem _ e)))
  have e6 : d.2.i 32 = 0 → s.i 32 = 0 ∧ s.i 43 = 59 ∧ SX 3 3 1 s0 d.2 := fun z => by
    have z1 := hd.f.1.symm.trans z
    exact ⟨(e5 z1).1, (e5 z1).2.1, ((e5 z1).2.2.tr (hd.sx z1)).w (by omega) (by omega) (by omega)⟩
  have fin : ∀ (g : CS) (x5 : Int32), JJ H (x - 90) (y + 4) c X1 (u :: v :: w :: P) lim g → (g.i 32 = 0 → s.i 32 = 0 ∧ s.i 43 = 59 ∧ SX 3 3 1 s0 g) → bo x5 → ok (f_X7_forHead_76 N E1 E2 g p.1 q.1 r.1 a.1 x5) (fun R => FHP H x (y + 4) c X P lim s0 R ∧ (R.2.i 32 = 0 → s.i 32 = 0 ∧ s.i 43 = 59)) := fun g x5 jg hg h5 => by
    refine ok_imp (q_fh76 (X := X) hN hE (by omega) (by omega) jg h0 hk (fun z => (hg z).2.2) hX (fun z => ⟨et (hg z).1, mt⟩) (fun z => ⟨eu (hg z).1, mu⟩) (fun z => ⟨ev (hg z).1, mv⟩) (fun z => ⟨ew (hg z).1, mw⟩) h5) (fun R hR => ⟨hR.1.w (by omega) (Int.le_refl _), fun z => ⟨(hg (hR.2 z)).1, (hg (hR.2 z)).2.1⟩⟩)
  refine ok_bind (q_found d.2 59) (fun f hf => ?_)
  obtain ⟨g1, g2⟩ := hf
  rw [g1]
  rcases g2 with ⟨g2, g3⟩ | ⟨g2, g3⟩
  · rw [if_pos g2]
    refine ok_bind (q_condition (E1 := E1) hN hE2 _ _ c _ _ lim d.2 (by omega) (by omega) j6 (fun z => by have := (e6 z).2.2.2.2.1; omega)) (fun i hi => ?_)
    obtain ⟨⟨j7, e7⟩, b7⟩ := hi
    refine ok_bind (q_add N i.2 31 a.1) (fun l hl => ?_)
    have j8 := j7.add hl (by omega) (by omega) (fun z DT KT qX _ _ => IOK.jmp (by decide) (ew (e6 (e7 z).1).1) mw qX)
    refine fin l.2 i.1 (j8.w (by omega) (by omega)) (fun z => ?_) b7
    have z1 := hl.f32.1.symm.trans z
    have k6 := e6 (e7 z1).1
    exact ⟨k6.1, k6.2.1, ((k6.2.2.tr (e7 z1).sx).tr (hl.sx z1)).w (by omega) (by omega) (by omega)⟩
  · rw [g2, if_neg (by decide)]
    exact fin d.2 1 (j6.w (by omega) (by omega)) e6 (Or.inr rfl)
