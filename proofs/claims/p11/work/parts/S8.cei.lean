/-! the class's reading: if, else, loops and labels end -/
theorem MDL.trn {p g d : Int} {σ R : CS} {a m : Nat} (h : MDL p g d σ R) (hp : 1 ≤ p) (hg : 0 ≤ g) (hm : cnI σ = (m : Int) + 1) (ea : σ.r 51 m = some a) (eR : R.r 51 m = some a) (nr : NR σ (m + 1)) (hsg : sgn R a = sgn σ a + d) : TNR σ R := by
  obtain ⟨a0, ⟨a1, a2⟩, a3, ⟨a5, a6⟩, a9, a10, a11, a12, a13⟩ := h
  have ecn : cnI R = cnI σ := by unfold cnI; rw [a5]
  have em : (cnI σ).toNat = m + 1 := by omega
  have e1 : (cnI σ).toNat - 1 = m := by omega
  have rr := a9
  rw [e1] at rr
  obtain ⟨i1, i2, i3, i4, i5⟩ := rr.sums (fun i hi => nr i (by omega))
  have sw : SGS σ (m + 1) = SGS σ m + sgn σ a := by
    show SGS σ m + sgn σ (rowA σ m) = _
    rw [rowA.of ea]
  have sR : SGS R (m + 1) = SGS σ m + sgn R a := by
    show SGS R m + sgn R (rowA R m) = _
    rw [rowA.of eR, i2]
  refine ⟨a0, ⟨by omega, by omega, by omega⟩, ?_, ⟨by omega, by omega, by omega, fun q => absurd q (by omega)⟩, a9, a10, a11, a6⟩
  rw [ecn, em, sR, sw]
  omega
/-- the same, and then the row goes: no names come to an end -/
theorem q_ebpop {N : Nat} {H : HB} {x y p g : Int} {c : List Nat} {X : List (Nat × List Nat)} {P : List Nat} {T : List Int} {σ s : CS} {a m : Nat} (h : JJ H x y c X P (ccI σ :: T) s) (ea : s.r 51 m = some a) (hσ : cnI σ = (m : Int) + 1 ∧ σ.r 51 m = some a ∧ NR σ (m + 1) ∧ isB1 (σ.o a 0)) (hs : s.i 32 = 0 → MDL p g 0 σ s ∧ s.i 22 = σ.i 22 ∧ s.o a 0 = σ.o a 0) (hp : 0 ≤ p) (hg : 0 ≤ g) (hO : s.i 32 = 0 → ∀ k : Nat, (k : Int) < tcI s → (s.a 17 k).toInt = -1 → OWS s a k → k ∈ P) : ok ((f_X6_pop N s).bind fun p27 => some ((), p27.2)) (fun R => TNQ H (x - 50) y X P T σ R.2 ∧ (R.2.i 32 = 0 → cnI R.2 = (m : Int))) := by
  refine ok_bind (q_popC N h.1) (fun R hR => ok_some ?_)
  obtain ⟨r1, r2, r3⟩ := hR
  show TNQ H (x - 50) y X P T σ R.2 ∧ (R.2.i 32 = 0 → cnI R.2 = (m : Int))
  have hcn : R.2.i 32 = 0 → cnI R.2 = (m : Int) := fun q => by
    have cs : cnI s = (m : Int) + 1 := by rw [← hσ.1]; unfold cnI; rw [(hs (r3.symm.trans q)).1.2.2.2.1.1]
    have := (r2 (by omega)).2
    omega
  refine ⟨⟨r1, fun q => ?_⟩, hcn⟩
  have qs := r3.symm.trans q
  obtain ⟨md, e22, es0⟩ := hs qs
  have cs : cnI s = (m : Int) + 1 := by rw [← hσ.1]; unfold cnI; rw [md.2.2.2.1.1]
  obtain ⟨eR, cR⟩ := r2 (by omega)
  have sort : isB1 (s.o a 0) := by rw [es0]; exact hσ.2.2.2
  have n9 := (h.2 qs).2.2.2.2.2.2.2.2.2
  have h56 : (s.i 56).toInt < (m : Int) := by
    by_cases z : (s.i 56).toInt = (m : Int)
    · exfalso
      have e2 := n9.2.2 a (by omega) (by rw [show (s.i 56).toInt.toNat = m by omega]; exact ea)
      rw [e2] at sort
      exact absurd sort (by unfold isB1; decide)
    · have := n9.2.1; omega
  have jr := h.k.pop (cc := c) (ll := ccI σ :: T) qs r1 cs ea eR (by omega) (fun k k1 k2 k3 => hO qs k k1 k2 k3) (fun DT KT c0 lim0 z => z.pl (Or.inl sort)) (fun _ _ => Or.inr rfl) h56 (h.2 qs).1.lim
  have Ri : ∀ j : Nat, j ≠ 53 → R.2.i j = s.i j := fun j k1 => by rw [eR, ci_ne _ _ _ k1]
  have ecc : ccI R.2 = ccI σ := by unfold ccI; rw [Ri 22 (by decide), e22]
  rw [ecc]
  refine ⟨⟨c, JK.j jr⟩, md.pop hp hg hσ.1 hσ.2.1 hσ.2.2.1 ?_ (fun j hj => Ri j (by omega)) (by rw [eR, ca_setI]; exact ⟨rfl, rfl, rfl⟩) (fun i _ => ⟨by rw [eR, cr_setI], fun b _ => ⟨by rw [eR, co_setI], by rw [eR, col_setI]⟩⟩) (by omega)⟩
  have so := hσ.2.2.2
  unfold isB1 at so
  unfold sgn
  rcases so with e | e | e | e | e | e | e <;> rw [e] <;> rfl
theorem NTG.cm {s t s2 t2 : CS} {a : Nat} {f : Nat → Int32} {l : Int64} (h : OUV s t a f l) (h1 : NTG s s2) (h2 : NTG t t2) : OUV s2 t2 a f l := by
  obtain ⟨⟨a1, a2, a3, a4, a5, a6, a7, a8, a9, a10⟩, a11, a12, a13⟩ := h
  obtain ⟨⟨b1, b2, b3, b4, b5, b6, b7, b8, b9, b10⟩, b11, b12, b13, b14⟩ := h1
  obtain ⟨⟨d1, d2, d3, d4, d5, d6, d7, d8, d9, d10⟩, d11, d12, d13, d14⟩ := h2
  refine ⟨⟨by rw [d1, b1, a1], by rw [d2, b2, a2], by rw [d3, b3, a3], by rw [d6, b6, a4], by rw [d7, b7, a5], by rw [d8, b8, a6], by rw [d9, b9, a7], by rw [d10, b10, a8], ?_, ?_⟩, fun z hz => by rw [d4, d5, b4, b5]; exact a11 z hz, by rw [d4]; exact a12, by rw [d5]; exact a13⟩
  · funext k
    by_cases q : k = 17
    · rw [q, d14, b14, a9, a10]
    · rw [d13 k q, b13 k q, a9]
  · funext j
    by_cases q : j = 21
    · rw [q, d12, b12, a10]
    · rw [d11 j q, b11 j q, a10]
/-- facts of a turn on a row a at m -/
def TUR (σ : CS) (a m : Nat) : Prop := σ.i 32 = 0 ∧ cnI σ = (m : Int) + 1 ∧ σ.r 51 m = some a ∧ NR σ (m + 1) ∧ m < 400
theorem ROW1.if10 {s : CS} {DT : Nat → List Nat} {KT : Nat → Prop} {a : Nat} {c0 c : List Nat} {lim lim' : List Int} (r : ROW1 s DT KT a c0 c lim lim') (hs : s.o a 0 = 203) : TTc (tcI s) DT KT (s.o a 10) c := by
  have pl := r.pl (Or.inl (Or.inl hs))
  obtain ⟨r1, r2, r3⟩ := r
  rw [pl.1] at r3
  have no : ∀ w : Int32, s.o a 0 = w → ¬ w = 203 → TTc (tcI s) DT KT (s.o a 10) c := fun w e n => absurd (e.symm.trans hs) n
  rcases r3 with ⟨z1, z2, e⟩ | ⟨z1, z2, z3, -⟩ | ⟨z1, z2, z3, e⟩ | ⟨z1, z2, z3, e⟩ | ⟨z1, z2, z3, z4, e⟩ | ⟨z1, z2, z3, z4, z5, e⟩ | ⟨z1, z2, z3, -⟩ | ⟨z1, z2, z3, e⟩ | ⟨z1, z2, z3, -⟩ | ⟨z1, z2, z3, -⟩ | ⟨z1, z2, z3, -⟩ | ⟨z1, z2, z3, e⟩
  · rcases z1 with z1 | z1
    · exact no _ z1 (by decide)
    · exact no _ z1 (by decide)
  · exact no _ z1 (by decide)
  · exact z3
  · rcases z1 with z1 | z1
    · exact no _ z1 (by decide)
    · exact no _ z1 (by decide)
  · exact z4
  · exact z4
  · exact no _ z1 (by decide)
  · exact no _ z1 (by decide)
  · exact no _ z1 (by decide)
  · exact no _ z1 (by decide)
  · exact no _ z1 (by decide)
  · exact no _ z1 (by decide)
theorem q_endIf {N : Nat} {H : HB} (hN : 1000 ≤ N) {x y : Int} {c : List Nat} {X : List (Nat × List Nat)} {P : List Nat} {T : List Int} {σ : CS} {a m : Nat} (hx : x ≤ 4000) (hy : y ≤ 90) (h : JJ H x y c X P (ccI σ :: T) σ) (ht : TUR σ a m) (hs : σ.o a 0 = 203) : ok (f_X7_endIf N σ a) (fun R => TNQ H x y X P T σ R.2 ∧ (R.2.i 32 = 0 → cnI R.2 = (m : Int) ∨ R.2.o a 0 = 204)) := by
  obtain ⟨nf, hm, ea, nr, m4⟩ := ht
  have okr : ∀ s : CS, CBS H s → s.r 51 m = some a → oK s a 0 := fun s hc e => hc.1.2.1 m a m4 e
  have sz := (h.2 nf).2.sz h.1.2.2.1 h.1.2.2.2.2.2.2.1.1 (by omega) (by omega)
  have b1 : isB1 (σ.o a 0) := Or.inl hs
  unfold f_X7_endIf
  refine ok_bind (q_skip hN h.1 204) (fun p hp => ?_)
  rcases hp with ⟨p1, p2, p3⟩ | ⟨p1, p2, p3⟩
  · rw [if_pos p1, p2]
    refine ok_chk (okr σ h.1 ea) ?_
    refine ok_bind (q_aim N σ (σ.o a 10)) (fun q hq => ?_)
    have t10 : ∀ (DT : Nat → List Nat) (KT : Nat → Prop), (∀ n : Nat, (n : Int) = cnI σ → RCH σ DT KT n c (ccI σ :: T)) → TTc (tcI σ) DT KT (σ.o a 10) c := fun DT KT qR => by
      obtain ⟨c0, L0, r⟩ := (qR (m + 1) (by omega)).top ea
      exact r.if10 hs
    have j1 : JJ H x y c X P (ccI σ :: T) q.2 := JK.j (h.k.aim hq (by omega) (by omega) (fun _ DT KT _ qR => by
      have w := t10 DT KT qR
      exact ⟨w.1, w.2.1, w.2.2.1⟩) (fun _ k hk => Or.inl hk))
    have ir := (IRR.rf j1.1).i 36 1 (by unfold IRJ; omega) (fun _ => Or.inr rfl)
    have j2 := j1.irr ir
    have r51 : (CS.setI q.2 36 1).r 51 m = some a := by rw [cr_setI, hq.1.2.2.2.2.2.2.1]; exact ea
    have o1 : (CS.setI q.2 36 1).o = σ.o := by rw [co_setI]; exact hq.1.2.2.2.1
    have a1 : (CS.setI q.2 36 1).a = q.2.a := ca_setI ..
    have tc1 : tcI (CS.setI q.2 36 1) = tcI σ := by unfold tcI; rw [ci_ne _ _ _ (by decide), hq.2.1]
    have i22 : (CS.setI q.2 36 1).i 22 = σ.i 22 := by rw [ci_ne _ _ _ (by decide), hq.2.1]
    refine ok_imp (q_ebpop (N := N) (p := 0) (g := 0) j2 r51 ⟨hm, ea, nr, b1⟩ (fun z => ⟨?_, i22, by rw [o1]⟩) (by omega) (by omega) (fun z k k1 k2 k3 => ?_)) (fun R hR => ⟨⟨hR.1.1, fun z => ?_⟩, fun z => Or.inl (hR.2 z)⟩)
    · have z1 := ir.f.1.symm.trans z
      exact ((hq.sx nf).mid.tr (ir.sx z1).mid).w (by omega) (by omega) (by omega)
    · exfalso
      unfold OWS at k3
      rw [o1, hs] at k3
      have k4 : (σ.o a 10).toInt = (k : Int) := by
        rcases k3 with w | w
        · exact absurd rfl w.2.2.2.1
        · exact w.2
      rw [a1] at k2
      exact hq.at k4.symm (by omega) (h.2 nf).1.tc0.2 k2
    · obtain ⟨⟨c', w⟩, w2⟩ := hR.1.2 z
      exact ⟨⟨c', w.w (by omega) (Int.le_refl _)⟩, w2⟩
  · rw [p1, if_neg (by decide)]
    obtain ⟨ju, xu⟩ := h.word p3 (fun _ => by rw [p2]; decide)
    have nfu := p3.f32.trans nf
    have sxu := xu nfu
    have ur : p.2.r = σ.r := p3.1.1.2.2.2.2.2.2.2.1
    have uo : p.2.o = σ.o := p3.1.1.2.2.2.1
    have ue : p.2.r 51 m = some a := by rw [ur]; exact ea
    have ucn : cnI p.2 = (m : Int) + 1 := by rw [← hm]; unfold cnI; rw [sxu.2.2.2.1.2.1]
    have b36 := ju.1.2.2.2.2.2.2.2.2.1
    refine ok_chk (okr p.2 ju.1 ue) (ok_chk b36 ?_)
    generalize p.2 = u at *
    have ouW := (((OUV.rf u a).o 0 204).o 5 0).o 6 (u.i 36)
    have cW := ((ju.1.o a 0 204 (by omega) (by omega)).o a 5 0 (fun _ => Or.inl rfl) (by omega)).o a 6 (u.i 36) (fun _ => b36) (by omega)
    generalize CS.setO (CS.setO (CS.setO u a 0 204) a 5 0) a 6 (u.i 36) = W at *
    have Wi : W.i = u.i := ouW.1.2.2.2.2.2.2.2.2.2
    have tcu : 0 ≤ tcI u ∧ tcI u ≤ 1010 := ⟨(ju.2 nfu).1.tc0.1, ((ju.2 nfu).2.sz ju.1.2.2.1 ju.1.2.2.2.2.2.2.1.1 (by omega) (by omega)).2⟩
    refine ok_bind (q_newTarget N W) (fun n hn => ?_)
    obtain ⟨n1, n2⟩ := hn
    obtain ⟨rr, -, v1, v2⟩ := q_newTarget N u
    obtain ⟨r0, n'⟩ := rr
    have v1 : NTG u n' := v1
    have ouN := NTG.cm ouW v1 n1
    have cn2 : CBS H n.2 := n1.cb cW (fun _ => by
      have : tcI W = tcI u := by unfold tcI; rw [Wi]
      omega)
    have nr2 : n.2.r 51 m = some a := by rw [n1.1.2.2.2.2.2.2.1, ouW.1.2.2.2.2.1]; exact ue
    refine ok_chk (okr n.2 cn2 nr2) ?_
    have ouB := ouN.o 9 n.1
    have cB := cn2.o a 9 n.1 (by omega) (by omega)
    generalize CS.setO n.2 a 9 n.1 = B at *
    -- the shadow
    have jn : JJ H (x - 200) (y - 3 + 1) c _ _ (ccI σ :: T) n' := ju.new v1 (by omega) (by omega) c
    have et : n.1.toInt = ((tcI u).toNat : Int) := by
      rw [n2, Wi]; show tcI u = _; omega
    obtain ⟨t, ht'⟩ : ∃ t, t = (tcI u).toNat := ⟨_, rfl⟩
    rw [← ht'] at jn et
    have nfn : n'.i 32 = 0 := v1.f.1.trans nfu
    have no : n'.o = σ.o := v1.1.2.2.2.1.trans uo
    have nr' : n'.r 51 m = some a := by rw [v1.1.2.2.2.2.2.2.1]; exact ue
    have ncn : cnI n' = (m : Int) + 1 := by rw [← ucn]; unfold cnI; rw [v1.2.1 53 (by decide)]
    have jx := jn.k.ext (n'.o a 10) c (fun _ DT KT _ qR => by
      obtain ⟨c0, L0, r⟩ := (qR (m + 1) (by omega)).top nr'
      exact r.if10 (by rw [no]; exact hs))
    obtain ⟨nx, hnx⟩ : ∃ nx, nx = (n'.o a 10).toInt.toNat := ⟨_, rfl⟩
    rw [← hnx] at jx
    have t10 : (n'.o a 10).toInt = (nx : Int) := by
      obtain ⟨D, DT, KT, -, -, -, -, -, ⟨k, k1, k2, k3⟩, -⟩ := (jn.2 nfn).1
      have ek : k = m + 1 := by omega
      rw [ek] at k3
      obtain ⟨c0, L0, r⟩ := k3.top nr'
      have := (r.if10 (by rw [no]; exact hs)).1
      omega
    have Bo : B.o a = upd (upd (upd (upd (u.o a) 0 204) 5 0) 6 (u.i 36)) 9 n.1 := ouB.2.2.1
    have B0 : B.o a 0 = 204 := by rw [Bo]; rfl
    have B9 : B.o a 9 = n.1 := by rw [Bo]; rfl
    have Bj : ∀ j : Nat, j = 2 ∨ j = 3 ∨ j = 10 ∨ j = 11 ∨ j = 13 → B.o a j = n'.o a j := fun j hj => by
      rw [Bo, no, ← uo]
      rcases hj with e | e | e | e | e <;> rw [e] <;> rfl
    have Bi : B.i = n'.i := ouB.1.2.2.2.2.2.2.2.2.2
    have Ba : B.a = n'.a := ouB.1.2.2.2.2.2.2.2.2.1
    have Br : B.r = n'.r := ouB.1.2.2.2.2.1
    have Bl : B.ol a = n'.ol a := by rw [ouB.2.2.2, v1.1.2.2.2.2.1]
    have rqB : RSQ n' B m := fun i hi => ⟨by rw [Br], fun b eb => ouB.2.1 b (fun z => by
      rw [z] at eb
      have := jn.1.1.2.2.1 i m a (by omega) m4 eb nr'
      omega)⟩
    have n203 : n'.o a 0 = 203 := by rw [no]; exact hs
    have jB : JK H (x - 200) (y - 3 + 1) c c c ((nx, c) :: (t, c) :: X) (nx :: P) (ccI σ :: T) B := by
      refine jx.top cB (by rw [Bi]) nr' (by rw [Br]; exact nr') (fun _ => ⟨ncn, ⟨⟨by rw [Ba], by rw [Ba], by rw [Ba], by rw [Ba], by rw [Ba]⟩, by rw [Bi], by rw [Bi], by rw [Bi], by rw [Bi]⟩, rqB, ⟨by rw [Bi], by rw [Bi], by rw [Bi], by rw [Bi], by rw [Bi]⟩, Bl, Bj 3 (by omega)⟩) (fun z => ?_) (fun _ => Or.inr ?_) (fun z => ?_) (fun _ DT KT c0 lim0 qX r => ?_) (fun _ k hk => ?_) (fun _ k _ k2 _ => Or.inl ?_) (fun _ _ _ z => z) (fun z => (jn.2 z).1.lim)
      · have := (jn.2 z).2.2.2.2.2.2.2.2.1
        unfold dsI at *
        rw [Bi]; exact this
      · rw [B0, n203]; exact ⟨by decide, by decide⟩
      · have w := (jn.2 z).2.2.2.2.2.2.2.1
        have em : (cnI n').toNat = m + 1 := by omega
        rw [em] at w
        have nrn : NR n' m := fun i hi => jn.1.2.2.2.2.2.2.1.2.2 i (by omega)
        have i2 := (rqB.sums nrn).2.1
        have e : SGS B (m + 1) = SGS n' (m + 1) := by
          show SGS B m + sgn B (rowA B m) = SGS n' m + sgn n' (rowA n' m)
          rw [i2, rowA.of (show B.r 51 m = some a by rw [Br]; exact nr'), rowA.of nr']
          unfold sgn
          rw [B0, n203]; rfl
        rw [e]; exact w
      · have pl := r.pl (Or.inl (Or.inl n203))
        obtain ⟨r1, r2, r3⟩ := r
        refine ⟨by rw [Bj 2 (by omega)]; exact r1, by rw [Bj 3 (by omega), Ba]; exact r2, ?_⟩
        refine Or.inr (Or.inr (Or.inr (Or.inl ⟨Or.inl B0, pl.1.symm, ?_, pl.2⟩)))
        rw [B9, pl.1, show tcI B = tcI n' by unfold tcI; rw [Bi]]
        exact TTc.x qX et (List.mem_cons_of_mem _ (List.mem_cons_self ..))
      · rcases List.mem_cons.mp hk with e | e
        · right; left
          rw [B0, B9, e]
          exact ⟨by decide, by decide, by decide, by decide, et⟩
        · exact Or.inl (List.mem_cons_of_mem _ e)
      · unfold OWS at k2
        rw [n203] at k2
        have k4 : (n'.o a 10).toInt = (k : Int) := by
          rcases k2 with w | w
          · exact absurd rfl w.2.2.2.1
          · exact w.2
        have : k = nx := by omega
        rw [this]; exact List.mem_cons_self ..
    have mB : MDL 2 3 0 σ B := by
      have o1 : MDL 0 0 0 n' B := MDL.cel nfn jn.1.1 ncn m4 nr' ouB
      exact (((sxu.mid).tr (v1.sx nfu).mid).tr o1).w (by omega) (by omega) (by omega)
    rw [B9]
    refine ok_bind (q_add N B 30 n.1) (fun d hd => ?_)
    have jd := jB.add (c1 := c) hd (by omega) (by omega) (fun z => (JJ.ds (JK.j jB) z).2) (fun _ DT KT qX _ _ => IOK.jmp (by decide) et (List.mem_cons_of_mem _ (List.mem_cons_self ..)) qX)
    have do0 : d.2.o = B.o := hd.1.2.2.2.1
    have dr : d.2.r 51 m = some a := by rw [hd.1.2.2.2.2.2.2.1, Br]; exact nr'
    refine ok_chk (okr d.2 jd.1 dr) ?_
    have d10 : d.2.o a 10 = n'.o a 10 := by rw [do0]; exact Bj 10 (by omega)
    rw [d10]
    refine ok_bind (q_aim N d.2 (n'.o a 10)) (fun e he => ok_some ?_)
    have je : JK H (x - 200 + 1) (y - 3 + 1) c c c ((nx, c) :: (t, c) :: X) P (ccI σ :: T) e.2 := jd.aimX he (by omega) (by omega) (fun _ => ⟨nx, t10, List.mem_cons_self ..⟩) (fun _ k hk => by
      rcases List.mem_cons.mp hk with e | e
      · right; rw [e]; exact t10.symm
      · exact Or.inl e)
    have ir := (IRR.rf je.1).i 36 1 (by unfold IRJ; omega) (fun _ => Or.inr rfl)
    have jf := je.irr ir
    show TNQ H x y X P T σ (CS.setI e.2 36 1) ∧ ((CS.setI e.2 36 1).i 32 = 0 → cnI (CS.setI e.2 36 1) = (m : Int) ∨ (CS.setI e.2 36 1).o a 0 = 204)
    have fr : (CS.setI e.2 36 1).r 51 m = some a := by rw [cr_setI, he.1.2.2.2.2.2.2.1]; exact dr
    have fo : (CS.setI e.2 36 1).o a 0 = 204 := by rw [co_setI, he.1.2.2.2.1, do0]; exact B0
    generalize CS.setI e.2 36 1 = F at *
    refine ⟨⟨jf.1, fun z => ?_⟩, fun _ => Or.inr fo⟩
    have z1 := ir.f.1.symm.trans z
    have z2 := he.f.1.symm.trans z1
    have z3 := hd.f32.1.symm.trans z2
    have sF : SX 0 0 0 B F := (((hd.sx z3).tr (he.sx z2)).tr (ir.sx z1)).w (by omega) (by omega) (by omega)
    have mF : MDL 2 3 0 σ F := (mB.tr sF.mid).w (by omega) (by omega) (by omega)
    have ecc : ccI F = ccI σ := by
      have w1 : F.i 22 = B.i 22 := sF.2.2.2.1.2.2.2
      unfold ccI
      rw [w1, Bi, v1.2.1 22 (by decide), sxu.2.2.2.1.2.2.2]
    rw [ecc]
    refine ⟨⟨c, JK.j ((jf.sub (fun q hq => List.mem_cons_of_mem _ (List.mem_cons_of_mem _ hq))).w (by omega) (by omega))⟩, mF.trn (by omega) (by omega) hm ea fr nr ?_⟩
    unfold sgn
    rw [fo, hs]; rfl
