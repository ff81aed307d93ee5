/-! the class's reading: for, lock, switch -/
theorem JJ.y {H : HB} {x y y' : Int} {c : List Nat} {X : List (Nat × List Nat)} {P : List Nat} {lim : List Int} {s : CS} (h : JJ H x y c X P lim s) (hy : s.i 32 = 0 → tcI s ≤ eI s + y') : JJ H x y' c X P lim s := ⟨h.1, fun q => ⟨(h.2 q).1, hy q, (h.2 q).2.2⟩⟩
theorem q_for80 {N : Nat} {H : HB} (hN : 1000 ≤ N) {k : Int} {E1 : CS → Option (Unit × CS)} {E2 : CS → Option (Int32 × CS)} (hE : EC H k E1) (hE2 : EC2 H k E2) {x y : Int} {c : List Nat} {X : List (Nat × List Nat)} {P : List Nat} {lim : List Int} {s0 s : CS} (hx : x ≤ 4000) (hy : y + 3 * k ≤ 87 ∧ 0 ≤ k) (h : JJ H x (y - 3) c X P lim s) (h59 : s.i 43 = 59 → JJ H x (y - 4) c X P lim s) (h0 : S0G s0) (hk : 24 - sgI s0 ≤ k) (hs : s.i 32 = 0 → SX 3 3 1 s0 s) : ok (f_X7_beginFor_80 N E1 E2 s (s0.i 50)) (fun R => STQ H (x + 50) y X P lim s0 R.2) := by
  unfold f_X7_beginFor_80
  by_cases e : s.i 43 = 59
  · refine ok_bind (q_forHead hN hE hE2 hx (by omega) (h59 e) h0 hk hs) (fun R hR => ?_)
    exact ok_imp (FHP.end hR.1 h0) (fun T hT => hT.1.w (Int.le_refl _) (by omega))
  · refine ok_bind (q_forHead hN hE hE2 hx (by omega) h h0 hk hs) (fun R hR => ?_)
    have nR : ¬ R.2.i 32 = 0 := fun z => e (hR.2 z).2
    exact ok_imp (FHP.end hR.1 h0) (fun T hT => ⟨hT.1.1, fun z => absurd (hT.2.symm.trans z) nR⟩)
theorem q_beginFor {N : Nat} {H : HB} (hN : 1000 ≤ N) {k : Int} {E1 : CS → Option (Unit × CS)} {E2 : CS → Option (Int32 × CS)} (hE : EC H k E1) (hE2 : EC2 H k E2) {x y : Int} {c : List Nat} {X : List (Nat × List Nat)} {P : List Nat} {lim : List Int} {s : CS} (hx : x ≤ 4000) (hy : y + 3 * k ≤ 87 ∧ 0 ≤ k) (h : JJ H x y c X P lim s) (h0 : S0G s) (hk : 24 - sgI s ≤ k) (ht : s.i 43 = 207) : ok (f_X7_beginFor N E1 E2 s) (fun R => STQ H (x - 20) y X P lim s R.2) := by
  unfold f_X7_beginFor f_X7_beginFor_64
  have nf := h0.1
  refine ok_bind (q_advC hN h.1) (fun p hp => ?_)
  obtain ⟨j1, e1⟩ := h.word hp (fun _ => by rw [ht]; decide)
  have nf1 := hp.f32.trans nf
  refine ok_bind (q_open hN j1.1 40) (fun q hq => ?_)
  obtain ⟨j2, m2⟩ := j1.op (by decide) hq
  have x2 : q.2.i 32 = 0 → SX 3 3 1 s q.2 := fun z => ((e1 nf1).tr (m2 z).sx).w (by omega) (by omega) (by omega)
  refine ok_bind (q_skip hN j2.1 200) (fun r hr => ?_)
  rcases hr with ⟨r1, r2, r3⟩ | ⟨r1, r2, r3⟩
  · rw [if_pos r1, r2]
    refine ok_bind (q_found q.2 2) (fun u hu => ?_)
    obtain ⟨u1, u2⟩ := hu
    rw [u1]
    rcases u2 with ⟨u2, u3⟩ | ⟨u2, u3⟩
    · rw [if_pos u2]
      refine ok_imp (q_for80 hN hE hE2 (by omega) hy j2 (fun e59 => j2.y (fun z => ?_)) h0 hk x2) (fun T hT => hT.w (by omega) (Int.le_refl _))
      rcases hq with hf | ⟨o1, o2, o3⟩
      · exact absurd z hf.2.2.2.1
      · obtain ⟨g, n⟩ := j1.2 nf1
        have cY : LC (CS.setI p.2 34 (p.2.i 34 + 1)) := j1.1.2.2.1
        have gn := o3.gain cY
        have pY : plI (CS.setI p.2 34 (p.2.i 34 + 1)) = plI p.2 := by unfold plI; rw [ci_ne _ _ _ (by decide)]
        have n0 : ¬ (CS.setI p.2 34 (p.2.i 34 + 1)).i 43 = 0 := by rw [ci_ne _ _ _ (by decide), o1]; decide
        have g1 := gn.2.1 n0
        have eR : eI q.2 = plI q.2 + 1 := eI.sg (by unfold ALN; rw [e59]; decide)
        have eP : eI p.2 = plI p.2 + 1 := eI.sg (by unfold ALN; rw [o1]; decide)
        have tc : tcI q.2 = tcI p.2 := by unfold tcI; rw [o3.1.2 21 (by decide) (by decide) (by decide) (by decide), ci_ne _ _ _ (by decide)]
        have := n.1
        omega
    · rw [u2, if_neg (by decide)]
      refine ok_bind (q_chHere (E2 := E2) hN hE (by omega) (by omega) j2 (fun z => by have := (x2 z).2.2.1; omega) 0 u3) (fun v hv => ?_)
      exact ok_imp (q_for80 hN hE hE2 (by omega) hy (hv.1.w (Int.le_refl _) (by omega)) (fun _ => hv.1.w (Int.le_refl _) (by omega)) h0 hk (fun z => ((x2 (hv.2 z).1).tr (hv.2 z).sx).w (by omega) (by omega) (by omega))) (fun T hT => hT.w (by omega) (Int.le_refl _))
  · rw [r1, if_neg (by decide)]
    obtain ⟨j3, e3⟩ := j2.word r3 (fun _ => by rw [r2]; decide)
    refine ok_bind (q_newName hN j3) (fun u hu => ?_)
    obtain ⟨j4, e4⟩ := hu
    have x4 : u.2.i 32 = 0 → SX 3 3 1 s u.2 := fun z => (((x2 (e3 (e4 z).1).1).tr (e3 (e4 z).1)).tr (e4 z).sx).w (by omega) (by omega) (by omega)
    refine ok_bind (q_found u.2 58) (fun v hv => ?_)
    obtain ⟨v1, v2⟩ := hv
    rw [v1]
    rcases v2 with ⟨v2, v3⟩ | ⟨v2, v3⟩
    · rw [if_pos v2]
      refine ok_bind (q_define (E2 := E2) hN hE (by omega) (by omega) j4 (fun z => by have := (x4 z).2.2.1; omega) u.1) (fun w hw => ?_)
      obtain ⟨j5, e5⟩ := hw
      refine ok_bind (q_forHead hN hE hE2 (by omega) (by omega) j5 h0 hk (fun z => ((x4 (e5 z).1).tr (e5 z)).w (by omega) (by omega) (by omega))) (fun R hR => ?_)
      exact ok_imp (FHP.end hR.1 h0) (fun T hT => hT.1.w (by omega) (by omega))
    · rw [v2, if_neg (by decide)]
      refine ok_bind (q_rowHead (E2 := E2) hN hE (by omega) (by omega) j4 h0 hk x4 v3 u.1) (fun R hR => ?_)
      exact ok_imp (FHP.end hR h0) (fun T hT => hT.1.w (by omega) (by omega))
theorem AT2.cons {c : List Nat} {x : Int32} (p : Nat) (h : AT2 c x) : AT2 (p :: c) x := by
  obtain ⟨i, h1, h2, r, q, h3, h4⟩ := h
  exact ⟨i, h1, by show i < c.length + 1; omega, p :: r, q, by rw [h3]; rfl, h4⟩
theorem NMT.cons {c : List Nat} {x : Int32} (p : Nat) (h : NMT x c) : NMT x (p :: c) := by
  rcases h with h | h
  · exact Or.inl h
  · exact Or.inr (h.cons p)
/-- as PRX.end, but into a new context -/
theorem PRX.in {H : HB} {x y : Int} {c : List Nat} {X X' : List (Nat × List Nat)} {P P' : List Nat} {lim lim' : List Int} {v : Int32} {m a q : Nat} {s0 s T : CS} {p g κ : Int} (h : PRX H x y (q :: c) c c X P lim v m a s0 p g 1 s) (h0 : S0G s0) (hTT : T = CS.setI s 38 (s.i 38 + 1)) (h5 : ¬ s.o a 0 = 305) (hX : ∀ q ∈ X', q ∈ X) (hR : s.i 32 = 0 → ∀ (DT : Nat → List Nat) (KT : Nat → Prop), (∀ q ∈ X, (q.1 : Int) < tcI s ∧ DT q.1 = q.2 ∧ ¬ KT q.1) → (∀ n : Nat, (n : Int) < (s.o a 3).toInt → NMT (s.a 49 n) c) → ROW1 s DT KT a c (q :: c) lim' lim) (hP : s.i 32 = 0 → ∀ k ∈ P, k ∈ P' ∨ OWS s a k) (hi : s.i 32 = 0 → lmh lim' ≤ ccI s) (h30 : s.i 32 = 0 → nmI s0 ≤ (s.o a 3).toInt ∧ (s.o a 3).toInt ≤ nmI s) (hsg : sgn s a = 1) (hk : κ ≤ g) (hg0 : 0 ≤ g) (hp : 1 ≤ p) (hq : s.i 32 = 0 → ∀ V : CS, IQ V m → RSQ V T m → NR V m → IQ T (m + 1) ∧ WCS T (m + 1) ≤ WCS V m + κ) : STQ H (x + 50) y X' P' lim' s0 T := by
  have nfs : T.i 32 = s.i 32 := by rw [hTT]; exact ci_ne _ _ _ (by decide)
  have cT : CBS H T := by
    rw [hTT]
    obtain ⟨c1, c2, c3, c4, c5, c6, c7, c8, c9⟩ := h.1.1
    refine ⟨c1, c2, c3, c4, ?_, c6, c7, c8, ?_⟩
    · rw [ci_ne _ _ _ (by decide), ci_ne _ _ _ (by decide)]; exact c5
    · rw [ci_ne _ _ _ (by decide), ci_ne _ _ _ (by decide), ci_ne _ _ _ (by decide), ci_ne _ _ _ (by decide)]; exact c9
  refine ⟨cT, fun nfT => ?_⟩
  have nf := nfs.symm.trans nfT
  have ds := h.ds nf
  have nV : (CS.setI s 53 v).i 32 = 0 := (ci_ne _ _ _ (by decide)).trans nf
  have sx := h.2 nf
  have ngV := sx.ng h0.2.2.1 h0.2.1
  have len := h.1.2.2.2.len nV ngV
  have n := (h.1.2.2.2.2 nV).2
  have ecn : cnI (CS.setI s 53 v) = cnI s0 := by unfold cnI; rw [sx.2.2.2.1.2.1]
  have i2 := (sx.2.2.2.2.2.1.sums h0.2.1).2.1
  rw [ecn, i2] at len
  have l1 := h0.2.2.2.2.1.2
  have l2 := sx.2.2.1
  have l3 := n.2.2.2.1.2
  have lc : c.length ≤ 20 := by omega
  have e1 : (1 : Int32).toInt = 1 := by decide
  have hd : (((q :: c).length : Nat) : Int) = dsI T ∧ (q :: c).length ≤ 21 := by
    refine ⟨?_, by show c.length + 1 ≤ 21; omega⟩
    show ((c.length + 1 : Nat) : Int) = (T.i 38).toInt
    rw [hTT, ci_at, toInt_add] <;> rw [e1] <;> omega
  obtain ⟨j, r⟩ := h.row nf h0 (T := T) (by rw [hTT]; exact ⟨rfl, rfl, rfl, rfl⟩) (fun j _ j2 => by rw [hTT]; exact ci_ne _ _ _ j2) cT h5 (hR nf) (hP nf) (fun _ z => z.cons q) (hi nf) (h30 nf) hd hsg hk hg0 hp (hq nf)
  exact ⟨⟨q :: c, JK.j (j.sub hX)⟩, r⟩
