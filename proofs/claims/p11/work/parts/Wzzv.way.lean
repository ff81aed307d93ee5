/-! both readers: the reference's jump, on the way -/
abbrev isJ (k : Nat) : Prop := k = 48 ∨ k = 49 ∨ k = 50 ∨ k = 51 ∨ k = 60 ∨ k = 61 ∨ k = 62
/-- u with what jumps change as in q -/
def sj (q u : RS) : RS := (va_up u.i 59 (q.i 59), u.l, fun k => if isJ k then q.a k else u.a k, u.b)
theorem sj.ej (q u : RS) : EJF (sj q u) u := by
  refine ⟨fun k hk => (if_neg hk).symm, rfl, rfl, fun k h1 h2 h3 h4 h5 h6 h7 => (if_neg ?_).symm⟩
  intro z
  unfold isJ at z
  omega
theorem sj.a {q u : RS} {k : Nat} (h : isJ k) : (sj q u).a k = q.a k := if_pos h
theorem sj.i {q u : RS} : (sj q u).i 59 = q.i 59 := rfl
theorem EJF.sym {s u : RS} (h : EJF s u) : EJF u s := ⟨fun k hk => (h.1 k hk).symm, h.2.1.symm, h.2.2.1.symm, fun k h1 h2 h3 h4 h5 h6 h7 => (h.2.2.2 k h1 h2 h3 h4 h5 h6 h7).symm⟩
theorem EJF.env {d : Int32} {S : CS} {s u : RS} (h : EJF s u) (g : ENV d S s) (w : ∀ j : Nat, (j : Int) < (u.i 59).toInt → (u.a 62 j).toInt < (s.i 29).toInt) : ENV d S u := by
  have e := fun k hk => h.1 k hk
  have ea := fun k hk => h.A k hk
  refine g.kq (e 38 (by decide)) (e 2 (by decide)) (e 3 (by decide)) (e 18 (by decide)) (e 53 (by decide)) (e 54 (by decide)) (e 55 (by decide)) (ea 1 (by decide)) (ea 4 (by decide)) (ea 41 (by decide)) (by rw [h.2.2.1]) (by rw [h.2.2.1]) (e 10 (by decide)) (e 11 (by decide)) (e 12 (by decide)) (e 14 (by decide)) (e 15 (by decide)) (e 17 (by decide)) (e 19 (by decide)) h.2.1 ?_ ?_
  · unfold phI
    rw [e 17 (by decide), e 20 (by decide)]
    exact ⟨g.2.2.2.2.2.2.1, g.2.2.2.2.2.2.2.1⟩
  · have z := g.wp
    unfold WPI at *
    rw [e 43 (by decide), e 56 (by decide), e 29 (by decide), ea 58 (by decide)]
    exact ⟨z.1, w⟩
theorem EJF.frb {s u : RS} (h : EJF s u) (T : Nat) : FRB T s u := fun j _ => by
  have ea := fun k hk => h.A k hk
  rw [ea 64 (by decide), ea 65 (by decide), ea 66 (by decide), ea 67 (by decide), ea 68 (by decide), ea 69 (by decide), ea 70 (by decide), ea 71 (by decide), ea 72 (by decide), ea 73 (by decide), h.2.2.1]
  exact ⟨rfl, rfl, rfl, rfl, rfl, rfl, rfl, rfl, rfl, rfl, rfl⟩
/-- what a piece behind the jump does, without the jump -/
theorem EJF.tbk {q J u : RS} (h : EJF q J) (g : TBK J u) : TBK q (sj q u) := by
  obtain ⟨⟨⟨n1, n2, n3, n4, n5, n6, n7, n8, n9, n10⟩, t0, t1, t2, -, -, t5, t6, t7, t8, t9, t10⟩, c1, c2⟩ := g
  have E := sj.ej q u
  obtain ⟨U, hU⟩ : ∃ U, U = sj q u := ⟨_, rfl⟩
  have j48 : U.a 48 = q.a 48 := by rw [hU]; exact sj.a (Or.inl rfl)
  have j49 : U.a 49 = q.a 49 := by rw [hU]; exact sj.a (Or.inr (Or.inl rfl))
  have j50 : U.a 50 = q.a 50 := by rw [hU]; exact sj.a (Or.inr (Or.inr (Or.inl rfl)))
  have j51 : U.a 51 = q.a 51 := by rw [hU]; exact sj.a (Or.inr (Or.inr (Or.inr (Or.inl rfl))))
  have j60 : U.a 60 = q.a 60 := by rw [hU]; exact sj.a (Or.inr (Or.inr (Or.inr (Or.inr (Or.inl rfl)))))
  have j61 : U.a 61 = q.a 61 := by rw [hU]; exact sj.a (Or.inr (Or.inr (Or.inr (Or.inr (Or.inr (Or.inl rfl))))))
  have j62 : U.a 62 = q.a 62 := by rw [hU]; exact sj.a (Or.inr (Or.inr (Or.inr (Or.inr (Or.inr (Or.inr rfl))))))
  have j59 : U.i 59 = q.i 59 := by rw [hU]; rfl
  rw [← hU] at E ⊢
  clear hU
  have xi : ∀ k : Nat, k ≠ 59 → u.i k = J.i k → U.i k = q.i k := fun k hk z => ((E.1 k hk).symm.trans z).trans (h.1 k hk)
  have xa : ∀ k : Nat, (k < 48 ∨ (51 < k ∧ k < 60) ∨ 62 < k) → ∀ j : Nat, u.a k j = J.a k j → U.a k j = q.a k j := fun k hk j z => by
    rw [← E.A k hk, z, h.A k hk]
  have xb : ∀ k j : Nat, u.b k j = J.b k j → U.b k j = q.b k j := fun k j z => by
    rw [← E.2.2.1, z, h.2.2.1]
  have xA : ∀ k : Nat, (k < 48 ∨ (51 < k ∧ k < 60) ∨ 62 < k) → u.a k = J.a k → U.a k = q.a k := fun k hk z => by
    rw [← E.A k hk, z, h.A k hk]
  have xB : ∀ k : Nat, u.b k = J.b k → U.b k = q.b k := fun k z => by
    rw [← E.2.2.1, z, h.2.2.1]
  have hi := fun k hk => h.1 k hk
  have Ei := fun k hk => E.1 k hk
  refine ⟨⟨⟨xi 2 (by decide) n1, xi 3 (by decide) n2, xi 8 (by decide) n3, xi 38 (by decide) n4, xi 43 (by decide) n5, xi 2 (by decide) n6, xi 56 (by decide) n7, xA 1 (by decide) n8, xA 4 (by decide) n9, xB 9 n10⟩, fun j hj => ?_, fun j hj => ?_, fun j hj => ?_, ⟨by rw [j59]; exact Int.le_refl _, fun j h1 h2 => by rw [j59] at h2; omega⟩, fun j hj => by rw [j60, j61, j62]; exact ⟨rfl, rfl, rfl⟩, ?_, fun j hj => ?_, ?_, fun j hj => ?_, ?_, fun j hj => ?_⟩, ?_, fun j hj => ?_⟩
  · rw [← hi 38 (by decide)] at hj
    obtain ⟨z1, z2, z3⟩ := t0 j hj
    exact ⟨xb 39 j z1, xa 40 (by decide) j z2, xa 41 (by decide) j z3⟩
  · rw [← hi 43 (by decide)] at hj
    obtain ⟨z1, z2, z3, z4, -⟩ := t1 j hj
    rw [j48, j49, j50, j51]
    exact ⟨xa 44 (by decide) j z1, xb 45 j z2, xa 46 (by decide) j z3, xa 47 (by decide) j z4, rfl, rfl, rfl, rfl⟩
  · rw [← hi 56 (by decide)] at hj
    obtain ⟨z1, z2⟩ := t2 j hj
    exact ⟨xa 57 (by decide) j z1, xa 58 (by decide) j z2⟩
  · rw [← Ei 29 (by decide), ← hi 29 (by decide)]
    exact t5
  · rw [← hi 29 (by decide)] at hj
    exact xa 30 (by decide) j (t6 j hj)
  · rw [← Ei 33 (by decide), ← hi 33 (by decide)]
    exact t7
  · rw [← hi 33 (by decide)] at hj
    obtain ⟨z1, z2⟩ := t8 j hj
    exact ⟨xa 34 (by decide) j z1, xa 37 (by decide) j z2⟩
  · rw [← Ei 24 (by decide), ← hi 24 (by decide)]
    exact t9
  · rw [← hi 24 (by decide)] at hj
    obtain ⟨z1, z2, z3⟩ := t10 j hj
    exact ⟨xa 25 (by decide) j z1, xa 27 (by decide) j z2, xa 28 (by decide) j z3⟩
  · rw [← Ei 20 (by decide), ← hi 20 (by decide)]
    exact c1
  · rw [← hi 20 (by decide)] at hj
    exact xa 22 (by decide) j (c2 j hj)
theorem WAY.ej {d : Int32} {T : Nat} {p f k y z : Int} {P R : CS} {q J u : RS} (h : EJF q J) (evq : ENV d P q) (w : WAY d T p f k y z P J R u) : WAY d T p f k y z P q R (sj q u) := by
  obtain ⟨w1, w2, w3, w4, w5, w6, ⟨m1, m2, m3, m4⟩, ⟨r1, r2, r3⟩⟩ := w
  have E := sj.ej q u
  have tb := h.tbk w4
  have l29 := w4.1.2.2.2.2.2.2.1
  have hi := fun k hk => h.1 k hk
  have Ei := fun k hk => E.1 k hk
  have p1 : phI J = phI q := by
    unfold phI
    rw [hi 17 (by decide), hi 20 (by decide)]
  have p2 : phI u = phI (sj q u) := by
    unfold phI
    rw [Ei 17 (by decide), Ei 20 (by decide)]
  rw [hi 11 (by decide), Ei 11 (by decide)] at m1 r1 r2 r3
  rw [p1, p2] at m2
  rw [hi 17 (by decide), Ei 17 (by decide)] at m3
  rw [hi 19 (by decide), Ei 19 (by decide)] at m4
  refine ⟨E.sym.env w1 (fun j hj => ?_), ?_, (h.frb T).tr (w3.tr (E.sym.frb T)), tb, w5, w6, ⟨m1, m2, m3, m4⟩, ⟨r1, r2, r3⟩⟩
  · rw [sj.a (Or.inr (Or.inr (Or.inr (Or.inr (Or.inr (Or.inr rfl))))))]
    have z := evq.wp.2 j hj
    rw [hi 29 (by decide)] at l29
    omega
  · show ((sj q u).i 63).toInt = (T : Int)
    rw [← Ei 63 (by decide)]
    exact w2
theorem WAY.tr {d d0 : Int32} {T : Nat} {p f k y z p1 f1 k1 y1 z1 : Int} {S P R : CS} {s q u : RS} (h : WAY d0 T p f k y z S s P q) (g : WAY d T p1 f1 k1 y1 z1 P q R u) : WAY d T (p + p1) (f + f1) (k + k1) (y + y1) (z + z1) S s R u := by
  obtain ⟨h1, h2, h3, h4, h5, ⟨i1, i2, i3, i4, i5⟩, ⟨n1, n2, n3, n4⟩, ⟨r1, r2, r3⟩⟩ := h
  obtain ⟨g1, g2, g3, g4, g5, ⟨j1, j2, j3, j4, j5⟩, ⟨m1, m2, m3, m4⟩, ⟨s1, s2, s3⟩⟩ := g
  exact ⟨g1, g2, h3.tr g3, h4.tr g4, h5.tr i3 g5, ⟨j1.trans i1, j2.trans i2, j3.trans i3, j4.trans i4, j5⟩, ⟨by omega, by omega, by omega, by omega⟩, ⟨by omega, by omega, by omega⟩⟩
/-- the third word of an instruction -/
theorem WAY.s23 {d : Int32} {T : Nat} {p f k y z : Int} {S P : CS} {s q : RS} {j : Nat} {v : Int32} (h : WAY d T p f k y z S s P q) : WAY d T p f k y z S s P (RS.setA q 23 j v) := by
  have e : ∀ m : Nat, m ≠ 23 → (RS.setA q 23 j v).a m = q.a m := fun m hm => if_neg hm
  obtain ⟨Q, hQ⟩ : ∃ Q, Q = RS.setA q 23 j v := ⟨_, rfl⟩
  have ei : Q.i = q.i := by rw [hQ]; rfl
  have el : Q.l = q.l := by rw [hQ]; rfl
  have eb : Q.b = q.b := by rw [hQ]; rfl
  rw [← hQ] at e ⊢
  clear hQ
  have ph : phI Q = phI q := by
    unfold phI
    rw [ei]
  have ev : ENV d P Q := h.1.kq (by rw [ei]) (by rw [ei]) (by rw [ei]) (by rw [ei]) (by rw [ei]) (by rw [ei]) (by rw [ei]) (e 1 (by decide)) (e 4 (by decide)) (e 41 (by decide)) (by rw [eb]) (by rw [eb]) (by rw [ei]) (by rw [ei]) (by rw [ei]) (by rw [ei]) (by rw [ei]) (by rw [ei]) (by rw [ei]) el (by rw [ei, ph]; exact ⟨h.1.2.2.2.2.2.2.1, h.1.2.2.2.2.2.2.2.1⟩) (h.1.wp.of (by rw [ei]; exact Int.le_refl _) (by rw [ei]) (by rw [ei]) (by rw [ei]) (e 58 (by decide)) (e 62 (by decide)))
  have fr : FRB T q Q := fun i _ => by
    rw [e 64 (by decide), e 65 (by decide), e 66 (by decide), e 67 (by decide), e 68 (by decide), e 69 (by decide), e 70 (by decide), e 71 (by decide), e 72 (by decide), e 73 (by decide), eb]
    exact ⟨rfl, rfl, rfl, rfl, rfl, rfl, rfl, rfl, rfl, rfl, rfl⟩
  have tb : TBK q Q := by
    have z := TBK.rf q
    unfold TBK TBZ CDK at *
    rw [ei, eb, e 1 (by decide), e 4 (by decide), e 22 (by decide), e 25 (by decide), e 27 (by decide), e 28 (by decide), e 30 (by decide), e 34 (by decide), e 37 (by decide), e 40 (by decide), e 41 (by decide), e 44 (by decide), e 46 (by decide), e 47 (by decide), e 48 (by decide), e 49 (by decide), e 50 (by decide), e 51 (by decide), e 57 (by decide), e 58 (by decide), e 60 (by decide), e 61 (by decide), e 62 (by decide)]
    exact z
  have w := h.cx (p1 := 0) (f1 := 0) (k1 := 0) ev (by show (Q.i 63).toInt = (T : Int); rw [ei]; exact h.2.1) fr tb (CKX.rf P) ⟨by rw [ei]; omega, by rw [ph]; omega, by rw [ei]; exact Int.le_refl _, by rw [ei]; omega⟩
  exact w.nu (by omega) (by omega) (by omega) (by omega) (by omega)
/-- the reference: the head of the chain, the flag or what waits -/
theorem jp_pend {N F g : Nat} {q J : RS} {x1 x4 hk : Int32} {w : CEL} {bb : Int} (hF : F = 48 ∨ F = 49) (h56 : 0 ≤ (q.i 56).toInt) (hx : x4.toInt = (ceG w : Int)) (hbx : (x1 = 1 ∧ bb = 0) ∨ (x1 = 0 ∧ bb = 1)) (h : f_X12_pend N (RS.setA q F g hk) x4 x1 = some J) : EJF q J ∧ (J.a F = upd (q.a F) g hk ∧ ∀ k : Nat, k = 48 ∨ k = 49 → k ≠ F → J.a k = q.a k) ∧ (JFL w bb q J ∨ JPD w bb q J) := by
  have e1 : (1 : Int32).toInt = 1 := by decide
  obtain ⟨J0, hJ0⟩ : ∃ y, y = RS.setA q F g hk := ⟨_, rfl⟩
  have ei : J0.i = q.i := by rw [hJ0]; rfl
  have el : J0.l = q.l := by rw [hJ0]; rfl
  have eb : J0.b = q.b := by rw [hJ0]; rfl
  have ea : ∀ m : Nat, m ≠ F → J0.a m = q.a m := by
    rw [hJ0]
    exact fun m hm => if_neg hm
  have eF : J0.a F = upd (q.a F) g hk := by
    rw [hJ0]
    show (if F = F then upd (q.a F) g hk else q.a F) = upd (q.a F) g hk
    exact if_pos rfl
  rw [← hJ0] at h
  clear hJ0
  have xn : x4.toNatClampNeg = ceG w := by
    show x4.toInt.toNat = ceG w
    omega
  -- a flag
  have flag : f_X12_pend_22 N J0 x4 x1 = some J → ((q.i 56).toInt = 0 ∨ (q.a 58 ((q.i 56).toInt - 1).toNat).toInt ≤ (ceG w : Int)) → EJF q J ∧ (J.a F = upd (q.a F) g hk ∧ ∀ k : Nat, k = 48 ∨ k = 49 → k ≠ F → J.a k = q.a k) ∧ (JFL w bb q J ∨ JPD w bb q J) := fun e hl => by
    unfold f_X12_pend_22 at e
    obtain ⟨y, hy, e⟩ := hf_bind e
    cases e
    unfold f_X12_goes at hy
    have fin : ∀ G : Nat, (G = 50 ∧ bb = 0) ∨ (G = 51 ∧ bb = 1) → RS.setA J0 G (ceG w) 1 = J → EJF q J ∧ (J.a F = upd (q.a F) g hk ∧ ∀ k : Nat, k = 48 ∨ k = 49 → k ≠ F → J.a k = q.a k) ∧ (JFL w bb q J ∨ JPD w bb q J) := fun G hG e => by
      have jn : ∀ m : Nat, m ≠ G → J.a m = J0.a m := by
        rw [← e]
        exact fun m hm => if_neg hm
      have jG : J.a G = upd (J0.a G) (ceG w) 1 := by
        rw [← e]
        show (if G = G then upd (J0.a G) (ceG w) 1 else J0.a G) = _
        exact if_pos rfl
      have ji : J.i = J0.i := by rw [← e]; rfl
      have jl : J.l = J0.l := by rw [← e]; rfl
      have jb : J.b = J0.b := by rw [← e]; rfl
      clear e
      refine ⟨⟨fun k _ => by rw [ji, ei], jl.trans el, jb.trans eb, fun k h1 h2 h3 h4 h5 h6 h7 => by rw [jn k (by omega), ea k (by omega)]⟩, ⟨by rw [jn F (by omega)]; exact eF, fun k hk2 hn => by rw [jn k (by omega), ea k hn]⟩, Or.inl ⟨hl, by rw [ji, ei], ⟨by rw [jn 60 (by omega), ea 60 (by omega)], by rw [jn 61 (by omega), ea 61 (by omega)], by rw [jn 62 (by omega), ea 62 (by omega)]⟩, fun z => ?_, fun z => ?_⟩⟩
      · have g50 : G = 50 := by omega
        rw [g50] at jG jn
        rw [jG, jn 51 (by decide), ea 50 (by omega), ea 51 (by omega)]
        exact ⟨rfl, rfl⟩
      · have g51 : G = 51 := by omega
        rw [g51] at jG jn
        rw [jG, jn 50 (by decide), ea 50 (by omega), ea 51 (by omega)]
        exact ⟨rfl, rfl⟩
    rcases hbx with ⟨z1, z2⟩ | ⟨z1, z2⟩
    · rw [z1, if_neg n10] at hy
      obtain ⟨-, hy⟩ := hf_ite hy
      rw [xn] at hy
      exact fin 50 (Or.inl ⟨rfl, z2⟩) (Option.some.inj hy)
    · rw [z1, if_pos rfl] at hy
      obtain ⟨-, hy⟩ := hf_ite hy
      rw [xn] at hy
      exact fin 51 (Or.inr ⟨rfl, z2⟩) (Option.some.inj hy)
  unfold f_X12_pend at h
  rw [ei] at h
  by_cases c0 : q.i 56 = 0
  · rw [if_pos c0] at h
    exact flag h (Or.inl (by rw [c0]; rfl))
  · rw [if_neg c0] at h
    obtain ⟨hib, h⟩ := hf_ite h
    have em : (q.i 56 - 1).toInt = (q.i 56).toInt - 1 := by
      have hi := Int32.toInt_lt (q.i 56)
      rw [toInt_sub] <;> rw [e1] <;> omega
    have en : (q.i 56 - 1).toNatClampNeg = ((q.i 56).toInt - 1).toNat := by
      show (q.i 56 - 1).toInt.toNat = _
      rw [em]
    rw [en, ea 58 (by omega), ea 57 (by omega)] at h
    have hp : 0 < (q.i 56).toInt := by
      have := hib.1
      omega
    by_cases c1 : x4 < q.a 58 ((q.i 56).toInt - 1).toNat
    · rw [if_pos c1] at h
      obtain ⟨hb2, h⟩ := hf_ite h
      have c1' := Int32.lt_iff_toInt_lt.mp c1
      have h59 := hb2.1
      have h59' := hb2.2
      obtain ⟨n, hn⟩ : ∃ n : Nat, n = (q.i 59).toNatClampNeg := ⟨_, rfl⟩
      have hn' : (n : Int) = (q.i 59).toInt := by
        rw [hn]
        show (((q.i 59).toInt.toNat : Nat) : Int) = _
        omega
      rw [← hn] at h
      have hJ := Option.some.inj h
      clear h
      have a60 : J.a 60 = upd (q.a 60) n x4 := by
        rw [← hJ]
        show (RS.setA (RS.setA (RS.setA J0 60 n x4) 61 n (vp_nar .boolean x1)) 62 n _).a 60 = _
        rw [setA_nk (by decide), setA_nk (by decide), ← ea 60 (by omega)]
        rfl
      have a61 : J.a 61 = upd (q.a 61) n (vp_nar .boolean x1) := by
        rw [← hJ]
        show (RS.setA (RS.setA (RS.setA J0 60 n x4) 61 n (vp_nar .boolean x1)) 62 n _).a 61 = _
        rw [setA_nk (by decide), ← ea 61 (by omega), ← setA_nk (s := J0) (k := 61) (k' := 60) (j := n) (v := x4) (by decide)]
        rfl
      have a62 : J.a 62 = upd (q.a 62) n (q.a 57 ((q.i 56).toInt - 1).toNat) := by
        rw [← hJ]
        show (RS.setA (RS.setA (RS.setA J0 60 n x4) 61 n (vp_nar .boolean x1)) 62 n _).a 62 = _
        rw [← ea 62 (by omega), ← setA_nk (s := J0) (k := 62) (k' := 60) (j := n) (v := x4) (by decide), ← setA_nk (s := RS.setA J0 60 n x4) (k := 62) (k' := 61) (j := n) (v := vp_nar .boolean x1) (by decide)]
        rfl
      have jn : ∀ m : Nat, m ≠ 60 → m ≠ 61 → m ≠ 62 → J.a m = J0.a m := fun m h1 h2 h3 => by
        rw [← hJ]
        show (RS.setA (RS.setA (RS.setA J0 60 n x4) 61 n (vp_nar .boolean x1)) 62 n _).a m = _
        rw [setA_nk h3, setA_nk h2, setA_nk h1]
      have ji : ∀ k : Nat, k ≠ 59 → J.i k = q.i k := fun k hk => by
        rw [← hJ, ← ei]
        exact if_neg hk
      have j59 : J.i 59 = q.i 59 + 1 := by
        rw [← hJ]
        rfl
      have jl : J.l = J0.l := by rw [← hJ]; rfl
      have jb : J.b = J0.b := by rw [← hJ]; rfl
      clear hJ
      refine ⟨⟨ji, jl.trans el, jb.trans eb, fun k h1 h2 h3 h4 h5 h6 h7 => by rw [jn k h5 h6 h7, ea k (by omega)]⟩, ⟨by rw [jn F (by omega) (by omega) (by omega)]; exact eF, fun k hk2 hne => by rw [jn k (by omega) (by omega) (by omega), ea k hne]⟩, Or.inr ⟨⟨hp, by omega⟩, ⟨by rw [jn 50 (by decide) (by decide) (by decide), ea 50 (by omega)], by rw [jn 51 (by decide) (by decide) (by decide), ea 51 (by omega)]⟩, ⟨h59, by rw [j59, ad1 h59 (by omega)]⟩, fun j hj => ?_, fun j hj => ?_⟩⟩
      · have nj : ¬ j = n := by omega
        rw [a60, a61, a62, updN nj, updN nj, updN nj]
        exact ⟨rfl, rfl, rfl⟩
      · have nj : j = n := by omega
        rw [a60, a61, a62, updA nj, updA nj, updA nj]
        refine ⟨hx, ?_, rfl⟩
        have b0 : vp_nar .boolean (0 : Int32) = 0 := by decide
        have b1 : vp_nar .boolean (1 : Int32) = 1 := by decide
        rcases hbx with ⟨z1, z2⟩ | ⟨z1, z2⟩
        · rw [z1, b1]
          exact ⟨fun _ => z2, fun _ => by decide⟩
        · rw [z1, b0]
          exact ⟨fun z => absurd rfl z, fun z => by omega⟩
    · rw [if_neg c1] at h
      have c1' : ¬ x4.toInt < (q.a 58 ((q.i 56).toInt - 1).toNat).toInt := fun z => c1 (Int32.lt_iff_toInt_lt.mpr z)
      exact flag h (Or.inr (by omega))
