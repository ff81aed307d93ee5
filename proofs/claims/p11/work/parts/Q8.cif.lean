/-! the class's reading: if, while, do, labels -/
theorem PRX.ds {H : HB} {x y : Int} {cD c d : List Nat} {X : List (Nat × List Nat)} {P : List Nat} {lim : List Int} {v : Int32} {m a : Nat} {s0 s : CS} {p g e : Int} (h : PRX H x y cD c d X P lim v m a s0 p g e s) (nf : s.i 32 = 0) : (s.i 38).toInt = (d.length : Int) ∧ d.length ≤ 21 := by
  have hd := ((h.1.2.2.2.2 ((ci_ne _ _ _ (by decide)).trans nf)).2).2.2.2.2.2.2.2.1
  refine ⟨?_, hd.2⟩
  rw [hd.1]
  unfold dsI
  rw [ci_ne _ _ _ (by decide)]
theorem PRX.lm {H : HB} {x y : Int} {cD c d : List Nat} {X : List (Nat × List Nat)} {P : List Nat} {lim : List Int} {v : Int32} {m a : Nat} {s0 s : CS} {p g e : Int} (h : PRX H x y cD c d X P lim v m a s0 p g e s) (nf : s.i 32 = 0) : lmh lim ≤ ccI s := ((h.1.2.2.2.2 ((ci_ne _ _ _ (by decide)).trans nf)).1).lim
theorem PRX.nm {H : HB} {x y : Int} {cD c d : List Nat} {X : List (Nat × List Nat)} {P : List Nat} {lim : List Int} {v : Int32} {m a : Nat} {s0 s : CS} {p g e : Int} (h : PRX H x y cD c d X P lim v m a s0 p g e s) (nf : s.i 32 = 0) : nmI s0 ≤ nmI s := (h.2 nf).2.2.2.2.1
theorem PRX.tc {H : HB} {x y : Int} {cD c d : List Nat} {X : List (Nat × List Nat)} {P : List Nat} {lim : List Int} {v : Int32} {m a : Nat} {s0 s : CS} {p g e : Int} (h : PRX H x y cD c d X P lim v m a s0 p g e s) (nf : s.i 32 = 0) {r : Int32} (er : r = s.i 21) : r.toInt = ((tcI s).toNat : Int) := by
  have : 0 ≤ tcI s := ((h.1.2.2.2.2 ((ci_ne _ _ _ (by decide)).trans nf)).1).tc0.1
  rw [er]
  show tcI s = _
  omega
theorem IQ.pl {s R : CS} {n a : Nat} (h : IQ s n) (hs : RSQ s R n) (nr : NR s n) (ha : R.r 51 n = some a) {v : Int32} (e : R.o a 0 = v) (hv : ¬ v = 300 ∧ ¬ v = 301 ∧ ¬ v = 302 ∧ ¬ v = 303) : IQ R (n + 1) ∧ WCS R (n + 1) ≤ WCS s n + 3 := by
  have := h.plain hs nr ha (by rw [e]; exact ⟨hv.1, hv.2.1, hv.2.2.1, fun z => hv.2.2.2 z.1⟩)
  exact ⟨this.1, by rw [this.2]; omega⟩
theorem q_beginIf {N : Nat} {H : HB} (hN : 1000 ≤ N) {k : Int} {E1 : CS → Option (Unit × CS)} {E2 : CS → Option (Int32 × CS)} (hE2 : EC2 H k E2) {x y : Int} {c : List Nat} {X : List (Nat × List Nat)} {P : List Nat} {lim : List Int} {s : CS} (hx : x ≤ 4000) (hy : y + 3 * k ≤ 87 ∧ 0 ≤ k) (h : JJ H x y c X P lim s) (h0 : S0G s) (hk : 24 - sgI s ≤ k) (ht : s.i 43 = 203) : ok (f_X7_beginIf N E1 E2 s) (fun R => STQ H (x - 20) y X P lim s R.2) := by
  unfold f_X7_beginIf
  have nf := h0.1
  have tw : 200 ≤ (s.i 43).toInt := by rw [ht]; decide
  refine ok_bind (q_newTarget N s) (fun p hp => ?_)
  obtain ⟨t1, t2⟩ := hp
  have j1 := h.k.new t1 (by omega) (by omega) c
  have et := NTG.t h.k nf t2
  have f1 := t1.f
  obtain ⟨t, ht'⟩ : ∃ t, t = (tcI s).toNat := ⟨_, rfl⟩
  rw [← ht'] at j1 et
  refine ok_bind (q_advC hN j1.1) (fun q hq => ?_)
  have wd := hq.wd j1.1.2.2.1 (Or.inl (by rw [f1.2.1]; exact tw))
  have j2 : JK H (x - 200) (y - 2) c c c ((t, c) :: X) (t :: P) lim q.2 := j1.adv hq (fun _ => by omega)
  have x2 : q.2.i 32 = 0 → SX 2 3 0 s q.2 := fun z => ((t1.sx nf).tr (hq.smr.sx (hq.f32.symm.trans z) wd)).w (by omega) (by omega) (by omega)
  refine ok_bind (q_cin (E1 := E1) hN hE2 (by omega) (by omega) j2.j (fun z => by have := (x2 z).2.2.1; omega)) (fun r hr => ?_)
  obtain ⟨⟨j3, x3⟩, b3⟩ := hr
  refine ok_bind (q_add N r.2 31 p.1) (fun u hu => ?_)
  have j4 := j3.add hu (by omega) (by omega) (fun _ DT KT z _ _ => IOK.jmp (by decide) et (List.mem_cons_self ..) z)
  have x4 : u.2.i 32 = 0 → SX 3 3 0 s u.2 := fun z => by
    have z' := hu.f32.1.symm.trans z
    exact (((x2 (x3 z').1).tr (x3 z').sx).tr (hu.sx z')).w (by omega) (by omega) (by omega)
  refine ok_bind (PRX.of (N := N) j4.k x4 203 _ _ j4.1.nm) (fun w hw => ?_)
  obtain ⟨v, a, m, r1, px, ⟨o0, o2, o3, ol⟩, ⟨o9, o10, o11⟩, ri, ra⟩ := hw
  rw [r1]
  show ok (if oK w.2 a 0 then some ((), CS.setO w.2 a 10 p.1) else none) _
  refine ok_chk px.1.2.1.1 (ok_some ?_)
  have ou := (OUV.rf w.2 a).o 10 p.1
  have cT := px.1.1.o a 10 p.1 (by omega) (by omega)
  have py := px.cel ou cT
  have To : (CS.setO w.2 a 10 p.1).o a = upd (w.2.o a) 10 p.1 := ou.2.2.1
  have Ti : (CS.setO w.2 a 10 p.1).i = w.2.i := ou.1.2.2.2.2.2.2.2.2.2
  show STQ H (x - 20) y X P lim s (CS.setO w.2 a 10 p.1)
  generalize CS.setO w.2 a 10 p.1 = T at *
  have T0 : T.o a 0 = 203 := by rw [To]; exact o0
  have T2 : T.o a 2 = u.2.i 38 := by rw [To]; exact o2
  have T3 : T.o a 3 = u.2.i 50 := by rw [To]; exact o3
  have T10 : T.o a 10 = p.1 := by rw [To]; rfl
  have e38 : u.2.i 38 = T.i 38 := by rw [Ti]; exact (ri 38 (by decide) (by decide)).symm
  have e50 : u.2.i 50 = T.i 50 := by rw [Ti]; exact (ri 50 (by decide) (by decide)).symm
  refine (PRX.end (κ := 3) (X' := X) py h0 (by rw [T0]; decide) (fun _ z => List.mem_cons_of_mem _ z) (fun nf DT KT qX qN => ⟨?_, qN, ?_⟩) (fun nf k hk => ?_) (fun nf => py.lm nf) (fun nf => ?_) ?_ (by omega) (by omega) (by omega) (fun nf V v1 v2 v3 => ?_)).w (by omega) (by omega)
  · rw [T2, e38]; exact (py.ds nf).1
  · refine Or.inr (Or.inr (Or.inl ⟨T0, rfl, ?_, rfl⟩))
    rw [T10]
    exact TTc.x qX et (List.mem_cons_self ..)
  · rcases List.mem_cons.mp hk with e | e
    · right; right
      exact ⟨Or.inl T0, by rw [T10, e]; exact et⟩
    · exact Or.inl e
  · rw [T3, e50]
    exact ⟨py.nm nf, Int.le_refl _⟩
  · unfold sgn; rw [T0]; rfl
  · exact v1.pl v2 v3 py.1.2.1.2.1 T0 (by decide)
/-- a loop's row -/
theorem q_pushLoop {N : Nat} {H : HB} {x y : Int} {cD c d : List Nat} {X : List (Nat × List Nat)} {P : List Nat} {lim : List Int} {s0 s : CS} {p g e : Int} (h : JK H x y cD c d X P lim s) (hs : s.i 32 = 0 → SX p g e s0 s) (x1 x2 x3 : Int32) : ok (f_X7_pushLoop N s x1 x2 x3) (fun R => ∃ (v : Int32) (a m : Nat), R.1 = some a ∧ PRX H x y cD c d X P lim v m a s0 p g e R.2 ∧ (R.2.o a 0 = x1 ∧ R.2.o a 2 = R.2.i 38 ∧ R.2.o a 3 = R.2.i 50) ∧ (R.2.o a 9 = x3 ∧ R.2.o a 10 = x2) ∧ (∀ j : Nat, j ≠ 53 → j ≠ 54 → R.2.i j = s.i j) ∧ R.2.a = s.a) := by
  unfold f_X7_pushLoop
  refine ok_bind (PRX.of (N := N) h hs x1 _ _ h.1.nm) (fun w hw => ?_)
  obtain ⟨v, a, m, r1, px, ⟨o0, o2, o3, ol⟩, ⟨o9, o10, o11⟩, ri, ra⟩ := hw
  rw [r1]
  show ok (if oK w.2 a 0 then some ((some a), CS.setO (CS.setO w.2 a 10 x2) a 9 x3) else none) _
  refine ok_chk px.1.2.1.1 (ok_some ?_)
  have ou := ((OUV.rf w.2 a).o 10 x2).o 9 x3
  have cT := (px.1.1.o a 10 x2 (by omega) (by omega)).o a 9 x3 (by omega) (by omega)
  have py := px.cel ou cT
  have To : (CS.setO (CS.setO w.2 a 10 x2) a 9 x3).o a = upd (upd (w.2.o a) 10 x2) 9 x3 := ou.2.2.1
  have Ti : (CS.setO (CS.setO w.2 a 10 x2) a 9 x3).i = w.2.i := ou.1.2.2.2.2.2.2.2.2.2
  have Ta : (CS.setO (CS.setO w.2 a 10 x2) a 9 x3).a = w.2.a := ou.1.2.2.2.2.2.2.2.2.1
  refine ⟨v, a, m, rfl, py, ⟨?_, ?_, ?_⟩, ⟨?_, ?_⟩, fun j j1 j2 => ?_, Ta.trans ra⟩
  · exact (congrFun To 0).trans o0
  · refine ((congrFun To 2).trans o2).trans ?_
    rw [show (some a, (w.2.setO a 10 x2).setO a 9 x3).2.i = w.2.i from Ti]
    exact (ri 38 (by decide) (by decide)).symm
  · refine ((congrFun To 3).trans o3).trans ?_
    rw [show (some a, (w.2.setO a 10 x2).setO a 9 x3).2.i = w.2.i from Ti]
    exact (ri 50 (by decide) (by decide)).symm
  · exact (congrFun To 9).trans rfl
  · exact (congrFun To 10).trans rfl
  · rw [show (some a, (w.2.setO a 10 x2).setO a 9 x3).2.i = w.2.i from Ti]
    exact ri j j1 j2
theorem PRX.loop {H : HB} {x y : Int} {c : List Nat} {X X1 : List (Nat × List Nat)} {P P1 : List Nat} {lim : List Int} {v : Int32} {m a : Nat} {s0 T : CS} {p g : Int} (py : PRX H x y c c c X1 P1 lim v m a s0 p g 0 T) (h0 : S0G s0) (hX : ∀ q ∈ X, q ∈ X1) (T0 : T.o a 0 = 205 ∨ T.o a 0 = 207 ∨ T.o a 0 = 304) (T2 : T.o a 2 = T.i 38) (T3 : T.i 32 = 0 → nmI s0 ≤ (T.o a 3).toInt ∧ (T.o a 3).toInt ≤ nmI T) (T9 : T.i 32 = 0 → ∃ k : Nat, (T.o a 9).toInt = (k : Int) ∧ (k, c) ∈ X1) (T10 : T.i 32 = 0 → ∃ k : Nat, (T.o a 10).toInt = (k : Int) ∧ (k, c) ∈ X1) (hP : T.i 32 = 0 → ∀ k ∈ P1, k ∈ P ∨ (T.o a 9).toInt = (k : Int)) (hg : 3 ≤ g) (hp : 1 ≤ p) : STQ H (x + 50) y X P lim s0 T := by
  have ns : ∃ w : Int32, T.o a 0 = w ∧ (w = 205 ∨ w = 207 ∨ w = 304) := ⟨_, rfl, T0⟩
  obtain ⟨w, w1, w2⟩ := ns
  refine PRX.end (κ := 3) (X' := X) py h0 (by rw [w1]; rcases w2 with e | e | e <;> rw [e] <;> decide) hX (fun nf DT KT qX qN => ⟨?_, qN, ?_⟩) (fun nf k hk => ?_) (fun nf => py.lm nf) T3 ?_ (by omega) (by omega) (by omega) (fun nf V v1 v2 v3 => ?_)
  · rw [T2]; exact (py.ds nf).1
  · obtain ⟨k9, e9, m9⟩ := T9 nf
    obtain ⟨k10, e10, m10⟩ := T10 nf
    exact Or.inr (Or.inr (Or.inr (Or.inr (Or.inl ⟨T0, rfl, TTc.x qX e9 m9, TTc.x qX e10 m10, rfl⟩))))
  · rcases hP nf k hk with z | z
    · exact Or.inl z
    · right; left
      rw [w1]
      refine ⟨?_, ?_, ?_, ?_, z⟩ <;> rcases w2 with e | e | e <;> rw [e] <;> decide
  · unfold sgn
    rw [w1]
    rcases w2 with e | e | e <;> rw [e] <;> rfl
  · refine v1.pl v2 v3 py.1.2.1.2.1 w1 ?_
    rcases w2 with e | e | e <;> rw [e] <;> decide
theorem q_beginWhile {N : Nat} {H : HB} (hN : 1000 ≤ N) {k : Int} {E1 : CS → Option (Unit × CS)} {E2 : CS → Option (Int32 × CS)} (hE2 : EC2 H k E2) {x y : Int} {c : List Nat} {X : List (Nat × List Nat)} {P : List Nat} {lim : List Int} {s : CS} (hx : x ≤ 4000) (hy : y + 3 * k ≤ 87 ∧ 0 ≤ k) (h : JJ H x y c X P lim s) (h0 : S0G s) (hk : 24 - sgI s ≤ k) (ht : s.i 43 = 205) : ok (f_X7_beginWhile N E1 E2 s) (fun R => STQ H (x - 20) y X P lim s R.2) := by
  unfold f_X7_beginWhile
  have nf := h0.1
  have tw : 200 ≤ (s.i 43).toInt := by rw [ht]; decide
  refine ok_bind (q_newTarget N s) (fun p hp => ?_)
  obtain ⟨t1, t2⟩ := hp
  have j1 := h.k.new t1 (by omega) (by omega) c
  have et := NTG.t h.k nf t2
  have f1 := t1.f
  obtain ⟨t, ht'⟩ : ∃ t, t = (tcI s).toNat := ⟨_, rfl⟩
  rw [← ht'] at j1 et
  refine ok_bind (q_newTarget N p.2) (fun p' hp' => ?_)
  obtain ⟨u1, u2⟩ := hp'
  have nf1 := f1.1.trans nf
  have j1' := j1.new u1 (by omega) (by omega) c
  have eu := NTG.t j1 nf1 u2
  have f2 := u1.f
  obtain ⟨u, hu'⟩ : ∃ u, u = (tcI p.2).toNat := ⟨_, rfl⟩
  rw [← hu'] at j1' eu
  refine ok_bind (q_advC hN j1'.1) (fun q hq => ?_)
  have wd := hq.wd j1'.1.2.2.1 (Or.inl (by rw [f2.2.1, f1.2.1]; exact tw))
  have j2 : JK H (x - 200) (y - 1) c c c ((u, c) :: (t, c) :: X) (u :: t :: P) lim q.2 := j1'.adv hq (fun _ => by omega)
  have x2 : q.2.i 32 = 0 → SX 2 3 0 s q.2 := fun z => (((t1.sx nf).tr (u1.sx nf1)).tr (hq.smr.sx (hq.f32.symm.trans z) wd)).w (by omega) (by omega) (by omega)
  have mt : (t, c) ∈ (u, c) :: (t, c) :: X := List.mem_cons_of_mem _ (List.mem_cons_self ..)
  have mu : (u, c) ∈ (u, c) :: (t, c) :: X := List.mem_cons_self ..
  refine ok_bind (q_aim N q.2 p.1) (fun z hz => ?_)
  have j2' : JK H (x - 200) (y - 1) c c c ((u, c) :: (t, c) :: X) (u :: P) lim z.2 := j2.aimX hz (by omega) (by omega) (fun _ => ⟨t, et, mt⟩) (fun _ k hk => by
    rcases List.mem_cons.mp hk with e | e
    · left; rw [e]; exact List.mem_cons_self ..
    · rcases List.mem_cons.mp e with e | e
      · right; rw [e]; exact et.symm
      · left; exact List.mem_cons_of_mem _ e)
  have x2' : z.2.i 32 = 0 → SX 2 3 0 s z.2 := fun w => ((x2 (hz.f.1.symm.trans w)).tr (hz.sx (hz.f.1.symm.trans w))).w (by omega) (by omega) (by omega)
  refine ok_bind (q_cin (E1 := E1) hN hE2 (by omega) (by omega) j2'.j (fun w => by have := (x2' w).2.2.1; omega)) (fun r hr => ?_)
  obtain ⟨⟨j3, x3⟩, b3⟩ := hr
  refine ok_bind (q_add N r.2 31 p'.1) (fun d hd => ?_)
  have j4 := j3.add hd (by omega) (by omega) (fun _ DT KT w _ _ => IOK.jmp (by decide) eu mu w)
  refine ok_bind (q_add N d.2 51 0) (fun b hb => ?_)
  have j5 := j4.add hb (by omega) (by omega) (fun _ _ _ _ _ _ => IOK.fall (by decide))
  have x4 : b.2.i 32 = 0 → SX 3 3 0 s b.2 := fun w => by
    have w1 := hb.f32.1.symm.trans w
    have w2 := hd.f32.1.symm.trans w1
    exact ((((x2' (x3 w2).1).tr (x3 w2).sx).tr (hd.sx w2)).tr (hb.sx w1)).w (by omega) (by omega) (by omega)
  refine ok_bind (q_pushLoop (N := N) j5.k x4 205 p.1 p'.1) (fun w hw => ?_)
  obtain ⟨v, a, m, r1, px, ⟨o0, o2, o3⟩, ⟨o9, o10⟩, ri, ra⟩ := hw
  rw [r1]
  show ok (if r.1 = 0 ∨ r.1 = 1 then (if oK w.2 a 0 then some ((), CS.setO w.2 a 7 r.1) else none) else none) _
  refine ok_chk b3 (ok_chk px.1.2.1.1 (ok_some ?_))
  have ou := (OUV.rf w.2 a).o 7 r.1
  have cT := px.1.1.o a 7 r.1 (fun _ => b3) (by omega)
  have py := px.cel ou cT
  have To : (CS.setO w.2 a 7 r.1).o a = upd (w.2.o a) 7 r.1 := ou.2.2.1
  have Ti : (CS.setO w.2 a 7 r.1).i = w.2.i := ou.1.2.2.2.2.2.2.2.2.2
  show STQ H (x - 20) y X P lim s (CS.setO w.2 a 7 r.1)
  generalize CS.setO w.2 a 7 r.1 = T at *
  have T9 : T.o a 9 = p'.1 := by rw [To]; exact o9
  refine (PRX.loop py h0 (fun _ z => List.mem_cons_of_mem _ (List.mem_cons_of_mem _ z)) (Or.inl (by rw [To]; exact o0)) (by rw [To, Ti]; exact o2) (fun nf => ?_) (fun nf => ⟨u, by rw [T9]; exact eu, mu⟩) (fun nf => ⟨t, by rw [To]; exact (congrArg Int32.toInt o10).trans et, mt⟩) (fun nf k hk => ?_) (by omega) (by omega)).w (by omega) (by omega)
  · have e : T.o a 3 = T.i 50 := by rw [To, Ti]; exact o3
    rw [e]
    exact ⟨py.nm nf, Int.le_refl _⟩
  · rcases List.mem_cons.mp hk with e | e
    · right; rw [e, T9]; exact eu
    · exact Or.inl e
