/-! both readers: switch as a statement -/
theorem setA_i {s : RS} {k j : Nat} {v : Int32} : (RS.setA s k j v).i = s.i := rfl
theorem em_x {N : Nat} {s : RS} {o x : Int32} {V : Int32 × RS} (h : f_X12_emit N s o x = some V) (q : 0 ≤ (s.i 20).toInt ∧ (s.i 20).toInt < 3000) : V.2.a 22 (s.i 20).toNatClampNeg = x := by
  have e3 : (3000 : Int32).toInt = 3000 := by decide
  unfold f_X12_emit f_X12_emit_21 at h
  by_cases c : (3000 : Int32) ≤ s.i 20
  · have := le_int c
    omega
  · rw [if_neg c] at h
    obtain ⟨hib, h⟩ := hf_ite h
    cases h
    show upd (s.a 22) (s.i 20).toNatClampNeg x (s.i 20).toNatClampNeg = x
    exact if_pos rfl
theorem i20_h2 {d : Int32} {S : CS} {s : RS} (h : ENV d S s) : 0 ≤ (s.i 20).toInt ∧ (s.i 20).toInt < 3000 := by
  have r1 := h.2.2.2.2.2.2.1
  have r2 := h.2.2.2.2.2.2.2.1
  have r3 := h.2.2.2.2.2.2.2.2.1
  have hi := i11_hi h
  unfold phI at r2
  omega
theorem WAX.tk {d : Int32} {T : Nat} {p f k y z p1 f1 k1 : Int} {S P R : CS} {s q u : RS} (h : WAX d T p f k y z S s P q) (ev : ENV d R u) (fr : FRB T q u) (tb : TBK9 q u) (pjR : pj R = pj P) (e22 : R.i 22 = P.i 22) (e18 : A18 P R) (n : (q.i 11).toInt + p1 ≤ (u.i 11).toInt ∧ phI q + f1 ≤ phI u ∧ (q.i 17).toInt ≤ (u.i 17).toInt ∧ (u.i 19).toInt = (q.i 19).toInt + k1) (hp : 0 ≤ p1) : WAX d T (p + p1) (f + f1) (k + k1) (y - 2 * p1) (z + p1) S s R u := by
  have ck := CKX.of pjR e22 e18
  obtain ⟨h1, -, h3, ⟨h4, h5, ⟨a1, a2, a3, a4, -, a6, a7, a8, a9⟩⟩, h6', ⟨i1, i3, i4, i5⟩, ⟨n1, n2, n3, n4⟩, ⟨r1, r2, r3⟩, ⟨l1, l2⟩⟩ := h
  obtain ⟨⟨⟨t1, t2, t3, t4, t5, t6, t7, t8, t9, t10⟩, tr⟩, tc⟩ := tb
  obtain ⟨⟨b1, b2, b3, b4, b5, b6⟩, -⟩ := id ck
  have e21 := pj_21 pjR
  have e54 := pj_54 pjR
  have e55 := (pj_eq pjR).2.2.2.2.2.2.2.2.2.2.2.2.2.2.2.2.1
  exact ⟨ev, trivial, h3.tr fr, ⟨h4.tr tr l1 (by rw [a4]; exact Int.le_refl _) (by rw [a6]; exact Int.le_refl _), h5.tr (tc.wk h5.1), ⟨t1.trans a1, t2.trans a2, t3.trans a3, t5.trans a4, trivial, t7.trans a6, t8.trans a7, t9.trans a8, t10.trans a9⟩⟩, h6'.tr i3 ck.z, ⟨b3.trans i1, b5.trans i3, b6.trans i4, b2.trans i5⟩, ⟨by omega, by omega, by omega, by omega⟩, ⟨by rw [e21]; omega, by rw [e54]; omega, by rw [e55]; omega⟩, ⟨by rw [t4]; exact l1, fun w => by rw [t4]; have := l2 w; omega⟩⟩
/-- a switch's row more -/
theorem COL.sw {R : CS} {s u : RS} {L : List CEL} {c1 : CEL} {col : Nat → Option (Nat × Bool)} {b20 : Int} (h : COL R u L col b20) (cf : COF s R u L col) (hb : b20 ≤ (s.i 20).toInt) (g0 : R.o c1.2.1 0 = 218) (hn : ∀ y ∈ L, y.1 < c1.1) (gh : (u.a 48 (ceG c1)).toInt < 0 ∧ (u.a 49 (ceG c1)).toInt < 0) (k0 : (s.i 20).toInt ≤ (u.a 66 (ceT c1)).toInt ∧ (u.a 66 (ceT c1)).toInt < (u.i 20).toInt) : COL R u (c1 :: L) col b20 := by
  obtain ⟨h1, h2, h3, h4, h5, h6, h7⟩ := h
  obtain ⟨f1, f2, f3⟩ := cf
  have np : ∀ k : Int, ¬ PLF R u c1 k := fun k z => by
    unfold PLF at z
    rw [g0] at z
    rcases z with ⟨z | z, -⟩ | ⟨z, -⟩ | ⟨z | z, -⟩ <;> exact absurd z (by decide)
  refine ⟨h1, h2, fun c hc q => ?_, fun k g e q => ?_, fun c hc q => ?_, fun c hc q hq t1 t2 l => ?_, fun c hc k p => ?_⟩
  · rcases List.mem_cons.mp hc with rfl | hc
    · exact ⟨Or.inl gh.1, Or.inl gh.2⟩
    · exact h3 c hc q
  · obtain ⟨c, hc, g1, g2⟩ := h4 k g e q
    exact ⟨c, List.mem_cons_of_mem _ hc, g1, g2⟩
  · rcases List.mem_cons.mp hc with rfl | hc
    · exact ⟨by omega, k0.2, f1 _ k0.1⟩
    · exact h5 c hc q
  · rcases List.mem_cons.mp hc with rfl | hc2
    · exfalso
      rcases List.mem_cons.mp hq with e0 | hq2
      · rw [e0] at l
        omega
      · have := hn q hq2
        omega
    · rcases List.mem_cons.mp hq with e0 | hq2
      · have := f2 c hc2 t1
        rw [e0]
        omega
      · exact h6 c hc2 q hq2 t1 t2 l
  · rcases List.mem_cons.mp hc with rfl | hc2
    · exact absurd p (np k)
    · obtain ⟨z1, z2, z3, z4⟩ := h7 c hc2 k p
      refine ⟨z1, z2, z3, fun q hq t => ?_⟩
      rcases List.mem_cons.mp hq with e0 | hq2
      · have := f3 c hc2 k p
        rw [e0]
        omega
      · exact z4 q hq2 t
theorem sv5.v {y : Int32} : (sv5 y).v = 995 := rfl
theorem sv5.site {y : Int32} {k : Nat} : rsite (sv5 y) k ↔ (k : Int) = y.toInt := by
  constructor
  · intro h
    rcases h with ⟨h, -⟩ | ⟨h, -⟩ | ⟨h, -⟩ | ⟨-, h⟩
    · rcases h with h | h | h <;> exact absurd h (by rw [sv5.v]; decide)
    · exact absurd h (by rw [sv5.v]; decide)
    · rcases h with h | h <;> exact absurd h (by rw [sv5.v]; decide)
    · exact h
  · exact fun h => Or.inr (Or.inr (Or.inr ⟨Or.inr rfl, h⟩))
theorem sv5.ty {y : Int32} : ¬ isTyv (sv5 y) := fun e => by
  rcases e with z | z | z | z <;> exact absurd z (by rw [sv5.v]; decide)
theorem sv5.tgs {y : Int32} : rtgs (sv5 y) = [] := by
  unfold rtgs
  rw [sv5.v, if_neg (by decide), if_neg (by decide), if_neg (by decide), if_neg (by decide), if_neg (by decide)]
theorem FGP.sv5 {y : Int32} {V : List RVW} {col : Nat → Option (Nat × Bool)} {b s U : RS} (h : FGP (sv5 y :: V) col b s U) (hy : (s.i 20).toInt ≤ y.toInt) : FGP V col b s U := by
  obtain ⟨h1, h4, h5, h6, h7⟩ := h
  refine ⟨h1, fun j j1 j2 => ⟨(h4 j j1 j2).1, fun q => (h4 j j1 j2).2.1 (fun p => q (p.nt (fun z => by have := sv5.site.mp z; omega))), fun q => (h4 j j1 j2).2.2 (fun p => q ?_)⟩, fun j j1 j2 => ⟨(h5 j j1 j2).1, (h5 j j1 j2).2.1, fun q => (h5 j j1 j2).2.2.1 (fun p => q (p.nt (by rw [sv5.v]; decide))), (h5 j j1 j2).2.2.2⟩, fun j j1 j2 q => h6 j j1 j2 (fun p => q (p.nt sv5.ty)), fun j j1 j2 => ⟨(h7 j j1 j2).1, (h7 j j1 j2).2.1, (h7 j j1 j2).2.2.1, fun q => (h7 j j1 j2).2.2.2 (fun p => q (p.nt sv5.ty))⟩⟩
  obtain ⟨r, hr, p1, p2⟩ := p
  rcases List.mem_cons.mp hr with e | hr
  · exfalso
    rw [e] at p2
    have p3 : (j : Int) = y.toInt := p2
    omega
  · exact ⟨r, hr, p1, p2⟩
/-- a switch's head in the reference: its second and third words wait -/
theorem JRG.emh {A : JBA} {U : RS} {B : CS} {b : RS} {V0 : List RVW} {s0 : RS} {W : List RVW} {K : JKT} {a e : Int} {S : CS} {s : RS} {N : Nat} {o x : Int32} {V : Int32 × RS} (h : JRG A U B b V0 s0 W K a e S s) (hz : f_X12_emit N s o x = some V) (h20 : 0 ≤ (s.i 20).toInt ∧ (s.i 20).toInt < 3000) : JRG A U B b V0 s0 (sv5 V.1 :: W) (fun FC SF nm X ω j Z => (U.a 21 (pcR s) = o ∧ V.1.toNatClampNeg = pcR s ∧ (((pcR s : Nat) : Int) < (U.i 20).toInt ∧ (U.i 20).toInt ≤ 3000) ∧ pcR V.2 = pcR s + 1) ∧ K FC SF nm X ω j Z) a e S V.2 := by
  intro crB
  obtain ⟨b1, ⟨b2, n8⟩, b3, b4, Ψ, G, col, YJ, sax, ⟨pin, pin0⟩, tgi, jsi, main⟩ := h crB
  obtain ⟨m1, m2, m3, m4, m5, m6⟩ := cd_emit hz h20.1 h20.2
  obtain ⟨Ψ', x1, ⟨x2, nk⟩, x3, sat, xn, -⟩ := (jsp_emt (U := U) (s0 := s0) (K := K) (K' := K) (y := -1) hz h20 (Or.inl rfl) (fun _ _ _ _ _ _ _ _ _ _ _ _ _ _ _ _ _ _ _ k => k) : JSP (-1) a e 0 0 U s0 K K S s S V.2) (crB.rms b1)
  have lb := b3.1.1
  have l4 := b4.1.1
  have pin' := pin.up x3
  have ey : V.1.toInt = (s.i 20).toInt := by rw [m2]
  have nco : ∀ k : Nat, (s.i 20).toInt ≤ (k : Int) → col k = none ∧ ∀ q ∈ V0, ¬ rsite q k := fun k hk => ⟨by
    cases ec : col k with
    | none => rfl
    | some x =>
      have := pin.1 k (Or.inl (by rw [ec]; exact fun z => by (cases z)))
      omega, fun q hq p => by
    have := pin0.1 k (Or.inr ⟨q, hq, p⟩)
    omega⟩
  have tg : ptl ((sv5 V.1 :: W) ++ V0) = ptl (W ++ V0) := by
    show rtgs (sv5 V.1) ++ ptl (W ++ V0) = _
    rw [sv5.tgs]
    rfl
  refine ⟨b1, ⟨b2, n8.nk nk⟩, b3.tr (x3.wk lb), b4.tr (x3.wk l4), GPS.an Ψ Ψ', G, col, YJ, (sax.an sat (MNO.ofk b1 b3) (MNO.ofk x1 x3) pin.2.2.1).nt sv5.ty, ⟨⟨fun k q => ?_, fun k q => pin'.2.1 k (q.nt (by rw [sv5.v]; decide)), fun k q => pin'.2.2.1 k (q.nt sv5.ty), fun k q => pin'.2.2.2 k (q.nt sv5.ty)⟩, pin0⟩, ?_, ⟨jsi.1.mv (rjw.n (fun z => absurd z.1 (by rw [sv5.v]; decide))) (fun r hr => (List.mem_cons.mp hr).elim (fun z => Or.inr (fun k q => by rw [z] at q; exact nco k (by have := sv5.site.mp q; omega))) Or.inl) b4 (x3.wk l4) (fun _ _ q => q.1), jsi.2.1, jsi.2.2.1.cs (rhd.no (by rw [sv5.v]; decide)), jsi.2.2.2.kd x1 x3⟩, ?_⟩
  · by_cases z : rsite (sv5 V.1) k
    · have := sv5.site.mp z
      omega
    · exact pin'.1 k (q.nt z)
  · unfold TGI at tgi ⊢
    rw [tg]
    exact tgi
  intro FC SF nm X h0 ω c0 psi ng0 hc0 hh0 hω
  obtain ⟨⟨ng, hc, hh, wn⟩, mn⟩ := main FC SF nm X h0 ω c0 psi.1 ng0 hc0 hh0 hω
  refine ⟨⟨⟨xn FC nm _ psi.2 ng.2 ng.1, ng.2⟩, hc, hh, wn.mv x1.2.2.2.1.1 (fun r hr hv => (List.mem_cons.mp hr).resolve_left (fun z => by rw [z] at hv; exact absurd hv (WGD.no (show ¬ (995 : Int32) = 996 by decide) rfl)))⟩, fun fc fg hA tyc jr => ?_⟩
  have fg1 : FGP (W ++ V0) col b s U := FGP.sv5 (fg.fst x3 (Int.le_refl _)) (by omega)
  have ps : ((pcR s : Nat) : Int) = (s.i 20).toInt := Int.toNat_of_nonneg h20.1
  have f := (fg.2.1 (pcR s) (by omega) (by omega)).1
  have f1 := fg.1
  have e9 : pcR V.2 = pcR s + 1 := by
    unfold pcR
    rw [m3]
    omega
  have e8 : V.1.toNatClampNeg = pcR s := by rw [m2]; rfl
  exact ⟨⟨f.trans m4, e8, ⟨by omega, f1.2.2⟩, e9⟩, mn (fc.pl (fun z hz => by rw [tg] at hz; exact hz)) fg1 hA tyc jr⟩
set_option maxHeartbeats 4000000 in
theorem st_switch {N : Nat} (hN : 1000 ≤ N) {E1 : CS → Option (Unit × CS)} {E2 : CS → Option (Int32 × CS)} (hm1 : ∀ σ, Kf (CS.i σ 32) (E1 σ)) (hm2 : ∀ σ, Kf (CS.i σ 32) (E2 σ)) (hE : SXR N 18 E1) {d : Int32} {B : CS} {b : RS} {t0 T n : Nat} {L : List CEL} {x : Int} {S : CS} {s U : RS} {c : CEL} {p R : Unit × CS} {Aj : JBA} (hC : COR d B b t0 (c :: L) x S s) (hS : STO c T S s) (hT : t0 ≤ T) (hm : NMC c S) (hx : S.o c.2.1 0 = 303 → x = -1) (h43 : S.i 43 = 218) (e1 : f_X0_add N (CS.setI (CS.setI S 36 1) 24 ((S.i 24) + 1)) 51 0 = some p) (e : f_X7_beginSwitch N E1 E2 p.2 = some R) (g : f_X12_parse_10 N n s = some U) : (¬ R.2.i 32 = 0 ∧ ¬ U.i 15 = 0) ∨ ∃ (m : Nat) (u : RS), f_X12_parse_10 N m u = some U ∧ NEW d B b t0 c L R.2 u (JTR Aj U B b (c :: L) S s) := by
  obtain ⟨q1, q2, q3, q4, q5, q6⟩ := id hS
  have hv := hC.1
  have t21 := hC.2.2.2.2.2.2.2.2.1.1
  have q54 := hC.2.2.2.2.2.2.2.2.1.2.2
  have k10 := (tk_is hv (a := 218) (b := 428) (Or.inr ⟨by decide, by decide⟩) (by decide)).mp h43
  obtain ⟨m1, s1, g1, w0, a64, a65, i43, i10, ph3, i21, i11, jst⟩ := st_gj hC hS k10 (Or.inr (Or.inr (Or.inr (Or.inr (Or.inr (Or.inl ⟨rfl, rfl⟩)))))) (by decide) e1 g
  -- the class, taken apart
  unfold f_X7_beginSwitch at e
  obtain ⟨c1', ec1, e⟩ := hf_bind e
  obtain ⟨c5, ec5, e⟩ := hf_bind e
  obtain ⟨c9, ec9, e⟩ := hf_bind e
  obtain ⟨c13, ec13, e⟩ := hf_bind e
  obtain ⟨c17, ec17, e⟩ := hf_bind e
  obtain ⟨pp, epp, e⟩ := hf_bind e
  have hoc := hf_oc e
  have ex : ∃ a : Nat, pp.1 = some a ∧ ((f_X0_newTarget N pp.2).bind fun p31 => if oK p31.2 a 0 then (f_X0_newTarget N (CS.setO p31.2 a 10 p31.1)).bind fun p36 => if oK p36.2 a 0 then (f_X0_add N (CS.setO (CS.setO p36.2 a 9 p36.1) a 13 (p36.2.i 22)) 30 (CS.o (CS.setO (CS.setO p36.2 a 9 p36.1) a 13 (p36.2.i 22)) a 10)).bind fun p41 => some ((), p41.2) else none else none) = some R := by
    rcases hoc with ⟨-, y⟩ | ⟨a, h1, h2⟩
    · obtain ⟨y1, -, y⟩ := hf_bind y
      cases y
    · exact ⟨a, h1, h2⟩
  clear e hoc
  obtain ⟨a, ra, e⟩ := ex
  obtain ⟨x31, ex31, e⟩ := hf_bind e
  obtain ⟨-, e⟩ := hf_ite e
  obtain ⟨x36, ex36, e⟩ := hf_bind e
  obtain ⟨-, e⟩ := hf_ite e
  obtain ⟨x41, ex41, e⟩ := hf_bind e
  cases e
  have f17 : ¬ c17.2.i 32 = 0 → ¬ x41.2.i 32 = 0 := fun z => by
    have z1 : ¬ pp.2.i 32 = 0 := by rw [kF_X6_push N c17.2 218 _ _ pp epp z]; exact z
    have z2 : ¬ x31.2.i 32 = 0 := by rw [kF_X0_newTarget N pp.2 x31 ex31 z1]; exact z1
    have z3 : ¬ x36.2.i 32 = 0 := by rw [kF_X0_newTarget N _ x36 ex36 (show ¬ (CS.setO x31.2 a 10 x31.1).i 32 = 0 from z2)]; exact z2
    rw [fst_add ex41]
    exact z3
  have f13 : ¬ c13.2.i 32 = 0 → ¬ x41.2.i 32 = 0 := fun z => f17 (by rw [kF_X1_open N c13.2 123 c17 ec17 z]; exact z)
  have f9 : ¬ c9.2.i 32 = 0 → ¬ x41.2.i 32 = 0 := fun z => f13 (by rw [kF_X1_close N c9.2 41 c13 ec13 z]; exact z)
  have f5 : ¬ c5.2.i 32 = 0 → ¬ x41.2.i 32 = 0 := fun z => f9 (by rw [kF_X1_expression N E1 E2 hm1 hm2 c5.2 c9 ec9 z]; exact z)
  show (¬ x41.2.i 32 = 0 ∧ ¬ U.i 15 = 0) ∨ ∃ (m : Nat) (u : RS), f_X12_parse_10 N m u = some U ∧ NEW d B b t0 c L x41.2 u (JTR Aj U B b (c :: L) S s)
  -- the reference, to its value
  obtain ⟨m2, V, hV, g2⟩ := rl_14 g1 w0.2.1 w0.1.1.2.1 a64
  unfold f_X12_groups at hV
  obtain ⟨-, hV⟩ := hf_ite hV
  rw [tp_nat w0.2.1, if_pos a65] at hV
  obtain ⟨q, hq, hV⟩ := hf_bind hV
  obtain ⟨r, hr, hV⟩ := hf_bind hV
  rw [ob_id] at hV
  obtain ⟨w2, f2⟩ := w0.nx hN (by rw [i43, h43]; decide) ec1 hq
  rcases w2.op hN (c := 40) (e := 40) (Or.inl ⟨by decide, by decide⟩) (by decide) (by decide) (by decide) ec5 hr with ⟨o1, o2, o3⟩ | ⟨o1, w3, f3⟩
  · exact Or.inl ⟨f5 o2, u_flt g2 (krf_f_X12_then N r.2 1 16 V hV o3)⟩
  have np3 := w3.2.2.2.2.2.2.1.2.1
  rcases y_expr hN hm1 hm2 hE w3.1 w3.2.1 (by omega) ec9 hV g2 with ⟨z1, z2⟩ | ⟨m3, u0, g3, xo, xc⟩
  · exact Or.inl ⟨f9 z1, z2⟩
  have w4 := w3.exo xo
  obtain ⟨ft2, -⟩ := FRB.ft (T := T) f2
  obtain ⟨ft3, -⟩ := FRB.ft (T := T) f3
  obtain ⟨ft4, u65⟩ := xo.ft
  have u64 : u0.a 64 T = 14 := ((ft2.tr ft3).tr ft4).1.trans a64
  obtain ⟨m4, V4, hV4, g4⟩ := rl_14 g3 w4.2.1 w4.1.1.2.1 u64
  unfold f_X12_groups at hV4
  obtain ⟨-, hV4⟩ := hf_ite hV4
  rw [tp_nat w4.2.1, if_neg (show ¬ u0.a 65 T = 0 by rw [u65]; decide), if_pos u65] at hV4
  obtain ⟨sh, hsh, hV4⟩ := hf_bind hV4
  obtain ⟨em, hem, hV4⟩ := hf_bind hV4
  obtain ⟨o, ho, hV4⟩ := hf_bind hV4
  obtain ⟨ob, hob, hV4⟩ := hf_bind hV4
  cases hV4
  rcases w4.cl hN hv (by omega) (c := 41) (e := 41) (Or.inl ⟨by decide, by decide⟩) (by decide) (by decide) (by decide) ec13 hsh with ⟨o1', o2, o3⟩ | ⟨o1', w5, f5'⟩
  · refine Or.inl ⟨f13 o2, u_flt g4 ?_⟩
    show ¬ ob.2.i 15 = 0
    have z1 : ¬ em.2.i 15 = 0 := krf_f_X12_emit N sh.2 28 (-1) em hem o3
    have z2 : ¬ o.2.i 15 = 0 := krf_f_X12_goal N _ 1 0 o ho z1
    exact krf_f_X12_open N _ 123 ob hob z2
  have np5 := w5.2.2.2.2.2.2.1.2.1
  have ix := em_x hem (i20_h2 w5.1)
  obtain ⟨w6, f6, e20, n20, -⟩ := w5.em (by omega) hem
  obtain ⟨ft5, -⟩ := FRB.ft (T := T) f5'
  obtain ⟨ft6, -⟩ := FRB.ft (T := T) f6
  have em64 : em.2.a 64 T = 14 := (ft5.tr ft6).1.trans u64
  have w7 : WAY d T 4 8 0 (-6) 3 S s c13.2 (RS.setA (RS.setA (RS.setA (RS.setA (RS.setA em.2 66 T em.1) 67 T (-1)) 68 T 0) 70 T 1) 71 T (em.2.i 38)) := (((((w6.sa (j := 66) (v := em.1) ⟨by omega, by omega⟩).sa (j := 67) (v := -1) ⟨by omega, by omega⟩).sa (j := 68) (v := 0) ⟨by omega, by omega⟩).sa (j := 70) (v := 1) ⟨by omega, by omega⟩).sa (j := 71) (v := em.2.i 38) ⟨by omega, by omega⟩).nu (by omega) (by omega) (by omega) (by omega) (by omega)
  obtain ⟨y, hy⟩ : ∃ y, y = RS.setA (RS.setA (RS.setA (RS.setA (RS.setA em.2 66 T em.1) 67 T (-1)) 68 T 0) 70 T 1) 71 T (em.2.i 38) := ⟨_, rfl⟩
  have y64 : y.a 64 T = 14 := by
    rw [hy, setA_nk (by decide), setA_nk (by decide), setA_nk (by decide), setA_nk (by decide), setA_nk (by decide)]
    exact em64
  have y66 : y.a 66 T = em.1 := by
    rw [hy, setA_nk (by decide), setA_nk (by decide), setA_nk (by decide), setA_nk (by decide)]
    exact setA_at
  have y67 : y.a 67 T = -1 := by
    rw [hy, setA_nk (by decide), setA_nk (by decide), setA_nk (by decide)]
    exact setA_at
  have y68 : y.a 68 T = 0 := by
    rw [hy, setA_nk (by decide), setA_nk (by decide)]
    exact setA_at
  have y70 : y.a 70 T = 1 := by
    rw [hy, setA_nk (by decide)]
    exact setA_at
  have y71 : y.a 71 T = em.2.i 38 := by
    rw [hy]
    exact setA_at
  have yi : y.i = em.2.i := by rw [hy, setA_i, setA_i, setA_i, setA_i, setA_i]
  have qy : qe y = qe em.2 := by rw [hy]; rfl
  have y40 : y.a 40 = em.2.a 40 := by rw [hy, setA_nk (by decide), setA_nk (by decide), setA_nk (by decide), setA_nk (by decide), setA_nk (by decide)]
  have y22 : y.a 22 = em.2.a 22 := by rw [hy, setA_nk (by decide), setA_nk (by decide), setA_nk (by decide), setA_nk (by decide), setA_nk (by decide)]
  rw [← hy] at w7 ho
  clear hy
  obtain ⟨oe, oa⟩ := g_goa ho
  obtain ⟨b1, b2, b3, b4, b5, b6, ⟨b7, b8, b9⟩, b10⟩ := id oa
  have evz : ENV d c13.2 (RS.setA o.2 72 T o.1) := setA_env (Or.inr (by omega)) (oa.env w7.1)
  rcases y_open hN evz (c := 123) (d := 123) (Or.inl ⟨by decide, by decide⟩) (by decide) (by decide) (by decide) ec17 hob with ⟨o1', o2, o3⟩ | ⟨o2', -, v3, v4, v5, v6, v7, v8, v9, v10, v11, v12⟩
  · exact Or.inl ⟨f17 o2, u_flt g4 (show ¬ ob.2.i 15 = 0 from o3)⟩
  refine Or.inr ⟨m4, RS.setA ob.2 65 T 2, g4, ?_⟩
  -- what stands in the end
  have quo : qe (RS.setA ob.2 65 T 2) = qe ob.2 := rfl
  have evu0 : ENV d c17.2 (RS.setA ob.2 65 T 2) := setA_env (Or.inr (by omega)) v3
  obtain ⟨u, hu⟩ : ∃ y, y = RS.setA ob.2 65 T 2 := ⟨_, rfl⟩
  have ui : u.i = ob.2.i := by rw [hu]; rfl
  have ua : ∀ k : Nat, k ≠ 65 → u.a k = ob.2.a k := by
    rw [hu]
    exact fun k h => setA_nk h
  have ub : u.b = ob.2.b ∧ u.l = ob.2.l := by rw [hu]; exact ⟨rfl, rfl⟩
  have u65' : u.a 65 T = 2 := by rw [hu]; exact setA_at
  have u65j : ∀ j : Nat, j ≠ T → u.a 65 j = ob.2.a 65 j := by
    rw [hu]
    exact fun j h => setA_ne h
  rw [← hu] at evu0 quo ⊢
  clear hu
  obtain ⟨x2, x3, x8, x18, x24, x29, x33, x38, x42, x43, x52, x53, x54, x55, x56, x59, x63, x75, xa1, xa4, xa25, xa26, xa27, xa28, xa30, xa34, xa37, xa40, xa41, xa44, xa46, xa47, xa48, xa49, xa50, xa51, xa57, xa58, xa60, xa61, xa62, xa64, xa65, xa66, xa67, xa68, xa69, xa70, xa71, xa72, xa73, xb9, xb39, xb45, xb74⟩ := qj_eq v4
  have zi : ∀ k : Nat, (RS.setA o.2 72 T o.1).i k = o.2.i k := fun _ => rfl
  have za : ∀ k : Nat, k ≠ 72 → (RS.setA o.2 72 T o.1).a k = o.2.a k := fun k h => setA_nk h
  have z72 : (RS.setA o.2 72 T o.1).a 72 T = o.1 := setA_at
  have z72j : ∀ j : Nat, j ≠ T → (RS.setA o.2 72 T o.1).a 72 j = o.2.a 72 j := fun j h => setA_ne h
  have zb : (RS.setA o.2 72 T o.1).b = o.2.b := rfl
  have qz0 : qe (RS.setA o.2 72 T o.1) = qe y := (kre_f_X12_goal N y 1 0 o ho)
  obtain ⟨z, hz⟩ : ∃ z, z = RS.setA o.2 72 T o.1 := ⟨_, rfl⟩
  rw [← hz] at qz0 hob evz v4 v6 v7 v8 v9 v12 x2 x3 x8 x18 x24 x29 x33 x38 x42 x43 x52 x53 x54 x55 x56 x59 x63 x75 xa1 xa4 xa25 xa26 xa27 xa28 xa30 xa34 xa37 xa40 xa41 xa44 xa46 xa47 xa48 xa49 xa50 xa51 xa57 xa58 xa60 xa61 xa62 xa64 xa65 xa66 xa67 xa68 xa69 xa70 xa71 xa72 xa73 xb9 xb39 xb45 xb74 zi za z72 z72j zb
  clear hz
  -- the same, before the goal
  obtain ⟨q', hq'⟩ : ∃ y, y = RS.setI u 43 (s.i 43) := ⟨_, rfl⟩
  have qi : ∀ k : Nat, k ≠ 43 → q'.i k = u.i k := by
    rw [hq']
    exact fun k h => if_neg h
  have q43 : q'.i 43 = s.i 43 := by
    rw [hq']
    rfl
  have qa : q'.a = u.a ∧ q'.b = u.b ∧ q'.l = u.l := by rw [hq']; exact ⟨rfl, rfl, rfl⟩
  clear hq'
  have y43 : y.i 43 = s.i 43 := w7.2.2.2.1.1.1.2.2.2.2.1
  have A : ∀ k : Nat, 51 < k → k ≠ 65 → k ≠ 72 → ob.2.a k = z.a k → u.a k = y.a k := fun k h1 h2 h3 e => (ua k h2).trans (e.trans ((za k h3).trans (b3 k (Or.inr (Or.inr h1)))))
  have A' : ∀ k : Nat, k < 44 → ob.2.a k = z.a k → u.a k = y.a k := fun k h1 e => (ua k (by omega)).trans (e.trans ((za k (by omega)).trans (b3 k (Or.inl h1))))
  have I : ∀ k : Nat, k ≠ 43 → ob.2.i k = z.i k → u.i k = y.i k := fun k h1 e => by
    rw [ui, e, zi k]
    exact b1 k h1
  have tbr : TBR y u := ⟨fun j _ => ⟨by rw [ub.1, xb39, zb, b5 39 (by decide)], by rw [A' 40 (by decide) xa40], by rw [A' 41 (by decide) xa41]⟩, fun j hj => ⟨by rw [ua 44 (by decide), xa44, za 44 (by decide)]; exact b4 44 j hj, by rw [ub.1, xb45, zb]; exact b6 j hj, by rw [ua 46 (by decide), xa46, za 46 (by decide)]; exact b4 46 j hj, by rw [ua 47 (by decide), xa47, za 47 (by decide)]; exact b4 47 j hj, by rw [ua 50 (by decide), xa50, za 50 (by decide)]; exact b4 50 j hj, by rw [ua 51 (by decide), xa51, za 51 (by decide)]; exact b4 51 j hj, by rw [ua 48 (by decide), xa48, za 48 (by decide)]; exact b4 48 j hj, by rw [ua 49 (by decide), xa49, za 49 (by decide)]; exact b4 49 j hj⟩, fun j _ => ⟨by rw [A 57 (by decide) (by decide) (by decide) xa57], by rw [A 58 (by decide) (by decide) (by decide) xa58]⟩, ⟨by rw [I 59 (by decide) x59]; exact Int.le_refl _, fun j k1 k2 => by rw [I 59 (by decide) x59] at k2; omega⟩, fun j _ => ⟨by rw [A 60 (by decide) (by decide) (by decide) xa60], by rw [A 61 (by decide) (by decide) (by decide) xa61], by rw [A 62 (by decide) (by decide) (by decide) xa62]⟩, by rw [I 29 (by decide) x29]; exact Int.le_refl _, fun j _ => by rw [A' 30 (by decide) xa30], by rw [I 33 (by decide) x33]; exact Int.le_refl _, fun j _ => ⟨by rw [A' 34 (by decide) xa34], by rw [A' 37 (by decide) xa37]⟩, by rw [I 24 (by decide) x24]; exact Int.le_refl _, fun j _ => ⟨by rw [A' 25 (by decide) xa25], by rw [A' 27 (by decide) xa27], by rw [A' 28 (by decide) xa28]⟩⟩
  have tbq : TBR y q' := by
    have h := tbr
    unfold TBR at *
    rw [qa.1, qa.2.1, qi 59 (by decide), qi 29 (by decide), qi 33 (by decide), qi 24 (by decide)]
    exact h
  have i20u : u.i 20 = y.i 20 := by
    rw [ui, v8, zi 20]
    exact b1 20 (by decide)
  have a22u : u.a 22 = y.a 22 := by
    rw [ua 22 (by decide), v9, za 22 (by decide)]
    exact b3 22 (by decide)
  have fru : FRB T y u := fun j hj => ⟨by rw [A 64 (by decide) (by decide) (by decide) xa64], by rw [u65j j (by omega), xa65, za 65 (by decide), b3 65 (by decide)], by rw [A 66 (by decide) (by decide) (by decide) xa66], by rw [A 67 (by decide) (by decide) (by decide) xa67], by rw [A 68 (by decide) (by decide) (by decide) xa68], by rw [A 69 (by decide) (by decide) (by decide) xa69], by rw [A 70 (by decide) (by decide) (by decide) xa70], by rw [A 71 (by decide) (by decide) (by decide) xa71], by rw [ua 72 (by decide), xa72, z72j j (by omega), b3 72 (by decide)], by rw [A 73 (by decide) (by decide) (by decide) xa73], by rw [ub.1, xb74, zb, b5 74 (by decide)]⟩
  have frq : FRB T y q' := fun j hj => by
    rw [qa.1, qa.2.1]
    exact fru j hj
  have t9 : TBK9 y q' := ⟨⟨⟨(qi 2 (by decide)).trans (I 2 (by decide) x2), (qi 3 (by decide)).trans (I 3 (by decide) x3), (qi 8 (by decide)).trans (I 8 (by decide) x8), (qi 38 (by decide)).trans (I 38 (by decide) x38), q43.trans y43.symm, trivial, (qi 56 (by decide)).trans (I 56 (by decide) x56), by rw [qa.1]; exact A' 1 (by decide) xa1, by rw [qa.1]; exact A' 4 (by decide) xa4, by rw [qa.2.1, ub.1, xb9, zb, b5 9 (by decide)]⟩, tbq⟩, ⟨by rw [qi 20 (by decide), i20u]; exact Int.le_refl _, fun j _ => by rw [qa.1, a22u]⟩⟩
  have u11 : (y.i 11).toInt + 1 ≤ (u.i 11).toInt := by
    rw [zi 11, b1 11 (by decide)] at v7
    rw [ui]
    exact v7
  have u17 : (u.i 17).toInt = (y.i 17).toInt + 1 := by
    rw [ui, v6, t17_up (N := N) evz, zi 17, b1 17 (by decide)]
  have u19 : (u.i 19).toInt = (y.i 19).toInt + 1 := by
    rw [ui, v12, zi 19, b1 19 (by decide)]
  have phu : phI u = phI y + 3 := by
    unfold phI
    rw [i20u, u17]
    omega
  have phq : phI q' = phI u := by
    unfold phI
    rw [qi 17 (by decide), qi 20 (by decide)]
  have evq : ENV d c17.2 q' := evu0.kq (qi 38 (by decide)) (qi 2 (by decide)) (qi 3 (by decide)) (qi 18 (by decide)) (qi 53 (by decide)) (qi 54 (by decide)) (qi 55 (by decide)) (by rw [qa.1]) (by rw [qa.1]) (by rw [qa.1]) (by rw [qa.2.1]) (by rw [qa.2.1]) (qi 10 (by decide)) (qi 11 (by decide)) (qi 12 (by decide)) (qi 14 (by decide)) (qi 15 (by decide)) (qi 17 (by decide)) (qi 19 (by decide)) qa.2.2 ⟨by rw [qi 20 (by decide)]; exact evu0.2.2.2.2.2.2.1, by rw [phq]; exact evu0.2.2.2.2.2.2.2.1⟩ (w7.1.wp.of (by rw [q43, y43]; exact Int.le_refl _) ((qi 56 (by decide)).trans (I 56 (by decide) x56)) ((qi 59 (by decide)).trans (I 59 (by decide) x59)) ((qi 29 (by decide)).trans (I 29 (by decide) x29)) (by rw [qa.1]; exact A 58 (by decide) (by decide) (by decide) xa58) (by rw [qa.1]; exact A 62 (by decide) (by decide) (by decide) xa62))
  have w8 : WAX d T 5 11 1 (-8) 4 S s c17.2 q' := ((w7.z (by omega)).x.tk (p1 := 1) (f1 := 3) (k1 := 1) evq frq t9 v5 v10 v11 ⟨by rw [qi 11 (by decide)]; exact u11, by rw [phq]; omega, by rw [qi 17 (by decide)]; omega, by rw [qi 19 (by decide)]; exact u19⟩ (by omega)).nu (by omega) (by omega) (by omega) (by omega) (by omega)
  have lo8 := w8.lo
  rw [qi 11 (by decide), phq] at lo8
  have sgP := w8.sg hv
  -- the row
  obtain ⟨a', m, ra', psr, evR, sq⟩ := evu0.row (v := 218) ⟨by decide, by decide, by decide, by decide⟩ (w8.pay hv (by omega)) (by rw [if_neg (by decide), if_pos (by decide)]; omega) (by omega) epp
  have ea : a' = a := by
    rw [ra] at ra'
    cases ra'
    rfl
  rw [ea] at psr sq
  have p21 : (pp.2.i 21).toInt = (c17.2.i 21).toInt := by rw [psr.2.1 21 (by decide) (by decide)]
  obtain ⟨ev31, -, y31⟩ := evR.nt (by omega) ex31
  have ev31' : ENV d (CS.setO x31.2 a 10 x31.1) u := ev31.so (by decide)
  have y31' : ((CS.setO x31.2 a 10 x31.1).i 21).toInt = (c17.2.i 21).toInt + 1 := by
    show (x31.2.i 21).toInt = _
    omega
  obtain ⟨ev36, -, y36⟩ := ev31'.nt (by omega) ex36
  have ev36' : ENV d (CS.setO (CS.setO x36.2 a 9 x36.1) a 13 (x36.2.i 22)) u := (ev36.so (by decide)).so (by decide)
  obtain ⟨ev41, ck41, -, y41⟩ := y_add ev36' ex41
  have kk := kd_X0_add N _ 30 _ x41 ex41
  have sqX := ((((sq.nt ex31).so (k := 10) (w := x31.1) ⟨by decide, by decide, by decide, by decide⟩).nt ex36).so (k := 9) (w := x36.1) ⟨by decide, by decide, by decide, by decide⟩).so (k := 13) (w := x36.2.i 22) ⟨by decide, by decide, by decide, by decide⟩
  have n53 : 0 ≤ (c17.2.i 53).toInt := by
    have := sq.2.2.2.1.1
    omega
  have sqY := sqX.kd n53 kk
  have oX : x41.2.o = (CS.setO (CS.setO x36.2 a 9 x36.1) a 13 (x36.2.i 22)).o := (pj_eq (pj2_eq kk).1).2.2.2.2.2.2.2.2.2.2.2.2.2.2.2.2.2.2.2.2.2.2.2.2.1
  have o36 : ∀ b : Nat, x36.2.o b = (CS.setO x31.2 a 10 x31.1).o b := fun b => by
    unfold f_X0_newTarget at ex36
    cases ex36
    rfl
  have o31 : ∀ b : Nat, x31.2.o b = pp.2.o b := fun b => by
    unfold f_X0_newTarget at ex31
    cases ex31
    rfl
  have o11 : x41.2.o a 11 = -1 := by
    rw [oX, so_nk (by decide), so_nk (by decide), o36 a, so_nk (by decide), o31 a]
    exact psr.2.2.2.2.2.2.2.2.2.2.2.2.1
  have o5 : x41.2.o a 5 = 0 := by
    rw [oX, so_nk (by decide), so_nk (by decide), o36 a, so_nk (by decide), o31 a]
    exact psr.2.2.2.2.2.2.2.2.2.1.1
  have o2X : x41.2.o a 2 = c17.2.i 38 := by
    rw [oX, so_nk (by decide), so_nk (by decide), o36 a, so_nk (by decide), o31 a]
    exact psh_o2 epp ra
  have o13 : x41.2.o a 13 = x36.2.i 22 := by
    rw [oX]
    exact so_at
  have i22' : x41.2.i 22 = x36.2.i 22 := (pj2_eq kk).2.2.2.2.1
  have i38' : x41.2.i 38 = c17.2.i 38 := by
    rw [(pj_eq (pj2_eq kk).1).2.2.2.2.2.2.2.2.2.2.2.2.1]
    show x36.2.i 38 = c17.2.i 38
    have z1 : x36.2.i 38 = x31.2.i 38 := by
      unfold f_X0_newTarget at ex36
      cases ex36
      rfl
    have z2 : x31.2.i 38 = pp.2.i 38 := by
      unfold f_X0_newTarget at ex31
      cases ex31
      rfl
    rw [z1, z2]
    exact psr.2.1 38 (by decide) (by decide)
  have X21 : (x41.2.i 21).toInt = (c17.2.i 21).toInt + 2 := by
    rw [y41]
    show (x36.2.i 21).toInt = _
    omega
  obtain ⟨zX, ⟨R53, R54, -, -⟩, ⟨R50, R56, R36⟩, ⟨-, m38, rr1⟩, ⟨g0, -, g3', -⟩, -⟩ := id sqY
  have c50 : c17.2.i 50 = S.i 50 := by
    have z1 := evu0.2.1.1
    have z2 : u.i 38 = y.i 38 := I 38 (by decide) x38
    have z3 : y.i 38 = s.i 38 := w7.2.2.2.1.1.1.2.2.2.1
    rw [z1, z2, z3]
    exact hv.2.1.1.symm
  -- the goal
  obtain ⟨gg, hgg⟩ : ∃ gg : Nat, (y.i 43).toInt = (gg : Int) := ⟨(y.i 43).toInt.toNat, by omega⟩
  obtain ⟨⟨c44, -⟩, ⟨c46, c48, c49⟩, c50', c51⟩ := b10 gg hgg
  have u44 : u.a 44 gg = 1 := by
    rw [ua 44 (by decide), xa44, za 44 (by decide)]
    exact c44
  have u48 : u.a 48 gg = -1 := by
    rw [ua 48 (by decide), xa48, za 48 (by decide)]
    exact c48
  have u47 : u.a 47 gg = u.i 52 := by
    rw [ua 47 (by decide), xa47, za 47 (by decide), I 52 (by decide) x52]
    exact goa47 ho hgg
  have u49 : u.a 49 gg = -1 := by
    rw [ua 49 (by decide), xa49, za 49 (by decide)]
    exact c49
  have u50 : u.a 50 gg = 0 := by
    rw [ua 50 (by decide), xa50, za 50 (by decide)]
    exact c50'
  have u51 : u.a 51 gg = 0 := by
    rw [ua 51 (by decide), xa51, za 51 (by decide)]
    exact c51
  have u43 : (u.i 43).toInt = (s.i 43).toInt + 1 := by
    rw [ui, x43, zi 43, b9, y43]
  have u66 : u.a 66 T = em.1 := by
    rw [A 66 (by decide) (by decide) (by decide) xa66]
    exact y66
  have u67 : u.a 67 T = -1 := by
    rw [A 67 (by decide) (by decide) (by decide) xa67]
    exact y67
  have u68 : u.a 68 T = 0 := by
    rw [A 68 (by decide) (by decide) (by decide) xa68]
    exact y68
  have u70 : u.a 70 T = 1 := by
    rw [A 70 (by decide) (by decide) (by decide) xa70]
    exact y70
  have u71 : u.a 71 T = S.i 50 := by
    rw [A 71 (by decide) (by decide) (by decide) xa71, y71]
    have z1 : y.i 38 = s.i 38 := w7.2.2.2.1.1.1.2.2.2.1
    rw [yi] at z1
    rw [z1]
    exact hv.2.1.1.symm
  have u72 : (u.a 72 T).toInt = (gg : Int) := by
    rw [ua 72 (by decide), xa72, z72, oe]
    exact hgg
  have u64' : u.a 64 T = 14 := by
    rw [A 64 (by decide) (by decide) (by decide) xa64]
    exact y64
  have em1 : em.1.toInt = (sh.2.i 20).toInt := by rw [e20]
  have i20e : (u.i 20).toInt = (sh.2.i 20).toInt + 1 := by rw [i20u, yi, n20]
  have l20 : (s.i 20).toInt ≤ (sh.2.i 20).toInt := w5.2.2.2.1.2.1
  have s20 : 0 ≤ (sh.2.i 20).toInt := (i20_h2 w5.1).1
  have u22 : u.a 22 (u.a 66 T).toNatClampNeg = -1 := by
    rw [u66, e20, a22u, y22]
    exact ix
  have eM : (-1 : Int32).toInt = -1 := by decide
  obtain ⟨c1, hc, ht, v2, v3'⟩ := hC.gen q1 q2 q3 hT hm hx w8 (by omega) ⟨by decide, by decide, by decide, by decide, by decide, by decide, by unfold isKS isOne isTy; decide⟩ sqY (g3'.trans c50) (by rw [i38']; show _ = _ + ((0 : Nat) : Int); omega) (fun j _ => by rw [qa.1, qa.2.1]; exact ⟨rfl, rfl, rfl, rfl, rfl, rfl, rfl, rfl, rfl, rfl, rfl⟩) (by
    unfold TBR
    rw [qa.1, qa.2.1, qi 59 (by decide), qi 29 (by decide), qi 33 (by decide), qi 24 (by decide)]
    exact ⟨fun _ _ => ⟨rfl, rfl, rfl⟩, fun _ _ => ⟨rfl, rfl, rfl, rfl, rfl, rfl, rfl, rfl⟩, fun _ _ => ⟨rfl, rfl⟩, ⟨Int.le_refl _, fun j k1 k2 => by omega⟩, fun _ _ => ⟨rfl, rfl, rfl⟩, Int.le_refl _, fun _ _ => rfl, Int.le_refl _, fun _ _ => ⟨rfl, rfl⟩, Int.le_refl _, fun _ _ => ⟨rfl, rfl, rfl⟩⟩) ⟨by rw [qi 20 (by decide)]; exact Int.le_refl _, fun j _ => by rw [qa.1]⟩ ⟨(qi 2 (by decide)).symm, (qi 3 (by decide)).symm, (qi 8 (by decide)).symm, (qi 38 (by decide)).symm, by rw [qa.1], by rw [qa.1], by rw [qa.2.1]⟩ (by rw [q43, u43]; rfl) (by rw [qi 56 (by decide)]; show _ = _ + ((0 : Nat) : Int); omega) ev41 ⟨by rw [qi 11 (by decide)]; exact Int.le_refl _, by show phI s + 0 ≤ phI u; omega, by rw [qi 17 (by decide)]; exact Int.le_refl _, by have z9 := w8.2.2.2.2.2.2.1.2.2.2; rw [qi 19 (by decide)] at z9; show _ = _ + ((1 : Nat) : Int); omega⟩ (by rw [X21]; omega) (by rw [R54]; omega) ⟨(qi 59 (by decide)).symm, by rw [qa.1], by rw [qa.1], by rw [qa.1]⟩ (fun c1 h1 h2 h3 h4 _ => by
      have hg1 : ceG c1 = gg := by
        rw [q43, ← y43] at h4
        omega
      refine ⟨by rw [h1, h2]; exact rr1, by rw [h1]; omega, by rw [h2, h3, hg1]; exact RFR.m218 g0 ⟨u64', u72, u71.trans (g3'.trans c50).symm, u44, Or.inl u68, ⟨fun z => by rw [u68] at z; exact absurd z (by decide), fun z => by rw [o11, eM] at z; omega⟩⟩, fun z => absurd (by rw [h2]; exact g0) z, fun _ => ⟨by rw [h2, o13, i22'], Int.le_refl _, ⟨by rw [h3, u66, em1]; exact s20, by rw [h3, u66, em1, i20e]; omega⟩, [], ⟨by have := ev41.2.2.2.2.2.2.2.2.2.1; omega, ⟨Int.le_refl _, (by show _ = _ + ((0 : Nat) : Int); omega), fun i j i1 i2 => absurd i2 (by omega)⟩, fun v => ⟨fun ⟨i, i1, i2, _⟩ => absurd i2 (by omega), fun ⟨j, hj, _⟩ => absurd hj List.not_mem_nil⟩⟩, ?_, ⟨fun _ => by rw [h3, u67, eM]; omega, fun L0 j hL => ?_⟩, fun j hj => absurd hj List.not_mem_nil⟩, fun _ => rfl, fun z => absurd z (by rw [h2, g0]; unfold isTy; decide)⟩
      · rw [h3, u22]
        show (-1 : Int32).toInt < 0
        rw [eM]
        omega
      · exact absurd hL.symm (by simp)) (fun g hg _ => by
      have hg1 : g = gg := by
        rw [q43, ← y43] at hg
        omega
      rw [hg1]
      exact ⟨by rw [u44]; decide, u50, u51⟩) (fun z => absurd z (by unfold isTy; decide)) (fun c1 col h1 h3 h4 hn hcl cf hb => by
      have hg1 : ceG c1 = gg := by
        rw [q43, ← y43] at h4
        omega
      exact hcl.sw cf hb (by rw [h1]; exact g0) hn (by rw [hg1, u48, u49, eM]; omega) (by rw [h3, u66, em1]; omega))
  have cd9 : cod c1 x41.2 u = -9 := by
    unfold cod
    rw [if_neg]
    intro z
    have z1 := z.1
    rw [v2, g0] at z1
    exact absurd z1 (by decide)
  have r36 : x41.2.i 36 = 1 := R36.trans w8.2.2.2.2.2.1.2.2.2
  have tu : tpI u = (T : Int) := by
    show (u.i 63).toInt = (T : Int)
    rw [ui, x63, zi 63, b1 63 (by decide)]
    exact w7.2.1
  refine ⟨c1, by rw [cd9]; exact hc, ht, ⟨Or.inr (Or.inr (Or.inr (Or.inl ⟨by rw [v2]; exact g0, by rw [v3']; exact u65', by rw [v3']; exact tu, by rw [v3', u70, r36], by rw [v2]; exact o5⟩))), Or.inr r36⟩, fun ku jw => ?_⟩
  have hin := hC.inl q1 q3
  have ckall : CKZ S x41.2 := w8.2.2.2.2.1.tr w8.2.2.2.2.2.1.2.1 zX
  have fsu : FRB T s u := w7.2.2.1.tr fru
  have veq : vws x41.2 u (c :: L) = vws S s (c :: L) := vws.eqf (T := T) (fun j hj => ((tbr.1 j (by rw [w7.2.2.2.1.1.1.2.2.2.1]; exact hj)).2.1).trans (w7.2.2.2.1.1.2.1 j hj).2.1) (c :: L) hC.o3 (fun y hy => (hin.o ckall y hy).1) (fun k t h1 h2 h3 => fsu.fld k t h1 h2 h3) (fun y hy => by
    have z1 := wid1 (S.o y.2.1 0)
    have z2 := (hin y hy).2.2.1
    omega)
  show JRW Aj U B b (vw x41.2 u c1 :: vws x41.2 u (c :: L)) x41.2 u
  rw [veq]
  have pls : ∀ y ∈ vws S s (c :: L), y.2.2.1 < c1.1 := vws.pl hc
  -- the chain of steps
  have j1 := jst.go2 jw (e := 1) (Or.inl rfl) hv.2.1.1
  have j2 := (j1.adw hN w0.1 (by rw [i43, h43]; decide) ec1 hq).opn hN w2.1 (c := 40) (c' := 40) (Or.inl ⟨by decide, by decide⟩) (by decide) (by decide) (by decide) ec5 hr o1
  have pc1 : pcC c5.2 = pcC p.2 := (pcC.pe (ke_X1_open N c1'.2 40 c5 ec5)).trans (pcC.pe (ke_X9_advance N p.2 c1' ec1))
  have pr1 : pcR r.2 = pcR s1 := (pcR.qe (kre_f_X12_open N q 40 r hr)).trans (pcR.qe (kre_f_X12_next N s1 q hq))
  have j3 : JRG Aj U B b (vws S s (c :: L)) s [] (JAN (fun _ _ _ _ _ _ _ => True) (JQA U 2528 0 (pcC c5.2) (pcR r.2) JQZ)) (-2) (-2) c5.2 r.2 := j2.imp (by omega) (by omega) (fun _ _ _ _ _ _ _ _ _ _ _ _ _ k => ⟨trivial, fun gu => k (by rw [← pc1, ← pr1]; exact gu 1)⟩)
  have l311 := w3.l11
  have l319 := w3.l19
  have s19 := hv.2.2.1.2.2
  have j4 := (j3.frm w3.1 xo xc (by omega) (by omega) (by omega) (by omega) (by omega)).cls hN w4.1 (by have := w4.sg hv; omega) (c := 41) (c' := 41) (Or.inl ⟨by decide, by decide⟩) (by decide) (by decide) (by decide) ec13 hsh o1'
  have j5 := j4.emh hem (i20_h2 w5.1)
  have nvz : NMV em.2 z := ⟨by rw [zi 38, b1 38 (by decide), yi], fun j _ => by rw [za 40 (by decide), b3 40 (by decide), y40]⟩
  have j6 := j5.se (u := z) (qz0.trans qy) nvz
  have j7 := (j6.opn hN evz (c := 123) (c' := 123) (Or.inl ⟨by decide, by decide⟩) (by decide) (by decide) (by decide) ec17 hob o2').se (u := u) quo ⟨by rw [ui], fun j _ => by rw [ua 40 (by decide)]⟩
  have pa1 := psr.1.1
  have j8 := j7.ce (R := pp.2) (ke_X6_push N c17.2 218 _ _ pp epp) (psr.2.1 21 (by decide) (by decide)) (by rw [pa1]) (by rw [pa1]) (psr.2.1 50 (by decide) (by decide)) (psr.2.1 44 (by decide) (by decide))
  have h9 := (i11_hi evu0).2
  have h44 : (pp.2.i 44).toInt ≤ 900 := by rw [psr.2.1 44 (by decide) (by decide), evu0.p44.1]; exact h9
  have k31 : x31.2.i 44 = pp.2.i 44 ∧ x31.2.i 20 = pp.2.i 20 := by
    unfold f_X0_newTarget at ex31
    cases ex31
    exact ⟨rfl, rfl⟩
  have k36 : x36.2.i 44 = x31.2.i 44 ∧ x36.2.i 20 = x31.2.i 20 := by
    unfold f_X0_newTarget at ex36
    cases ex36
    exact ⟨rfl, rfl⟩
  have j9 := (j8.nt ex31 h44 (by omega)).ce (R := CS.setO x31.2 a 10 x31.1) rfl rfl rfl rfl rfl rfl
  have j10 := (j9.nt ex36 (show (x31.2.i 44).toInt ≤ 900 by rw [k31.1]; exact h44) (by omega)).ce (R := CS.setO (CS.setO x36.2 a 9 x36.1) a 13 (x36.2.i 22)) rfl rfl rfl rfl rfl rfl
  have j11 := j10.add ex41 (show (x36.2.i 44).toInt ≤ 900 by rw [k36.1, k31.1]; exact h44) (by omega)
  have pcX : pcC (CS.setO (CS.setO x36.2 a 9 x36.1) a 13 (x36.2.i 22)) = pcC c9.2 := by
    have z1 : pcC c17.2 = pcC c9.2 := (pcC.pe (ke_X1_open N c13.2 123 c17 ec17)).trans (pcC.pe (ke_X1_close N c9.2 41 c13 ec13))
    rw [← z1]
    unfold pcC
    show (x36.2.i 20).toInt.toNat = _
    rw [k36.2, k31.2, (pe_eq (ke_X6_push N c17.2 218 _ _ pp epp)).1]
  have pru : pcR sh.2 = pcR u0 := pcR.qe (kre_f_X12_shut N u0 41 sh hsh)
  have o10 : x41.2.o a 10 = x31.1 := by
    rw [oX, so_nk (by decide), so_nk (by decide), o36 a]
    exact so_at
  have o9 : x41.2.o a 9 = x36.1 := by
    rw [oX, so_nk (by decide)]
    exact so_at
  have e10 : (CS.setO (CS.setO x36.2 a 9 x36.1) a 13 (x36.2.i 22)).o a 10 = x31.1 := by rw [← oX]; exact o10
  have hr0 : (vw x41.2 u c1).v = 218 := show x41.2.o c1.2.1 0 = 218 by rw [v2]; exact g0
  have r9 : (vw x41.2 u c1).1 9 = x36.1 := show x41.2.o c1.2.1 9 = x36.1 by rw [v2]; exact o9
  have r10 : (vw x41.2 u c1).1 10 = x31.1 := show x41.2.o c1.2.1 10 = x31.1 by rw [v2]; exact o10
  have r66 : (vw x41.2 u c1).2.1 66 = em.1 := show (vw x41.2 u c1).2.1 66 = em.1 by rw [vw_at (k := 66) ⟨by decide, by decide⟩, v3']; exact u66
  have r67 : (vw x41.2 u c1).2.1 67 = -1 := show (vw x41.2 u c1).2.1 67 = -1 by rw [vw_at (k := 67) ⟨by decide, by decide⟩, v3']; exact u67
  have jl : jlv (vw x41.2 u c1).v = 1264 := by rw [hr0]; rfl
  have en : ∀ (G : GHT) (ω h l : Nat), jen G ω (vw x41.2 u c1) h l = [] := fun G ω h l => jen.no (by rw [hr0]; decide) (fun y => by rcases y with y | y | y | y <;> rw [hr0] at y <;> exact absurd y (by decide)) (by rw [hr0]; decide)
  have gkp : GKP s u := (GKP.tbr w7.2.2.2.1.1.2 (by rw [y43]; exact Int.le_refl _)).tr (GKP.tbr tbr (by rw [y43]; omega))
  have g43 : ((ceG c1 : Nat) : Int) = (s.i 43).toInt := by
    have t43 := ht.2.1
    have o1 : nGo (x41.2.o c1.2.1 0) = 1 := by rw [v2, g0]; decide
    rw [o1] at t43
    omega
  have eg : ceG c1 = gg := by rw [y43] at hgg; omega
  have u11s : (s.i 11).toInt ≤ (u.i 11).toInt := by have := w7.l11; omega
  have x41p : 0 ≤ (x41.2.i 20).toInt → ((pcC c9.2 : Nat) : Int) ≤ (x41.2.i 20).toInt := fun z0 => by
    rw [← pcX]
    obtain ⟨Q, hQ⟩ : ∃ Q, Q = CS.setO (CS.setO x36.2 a 9 x36.1) a 13 (x36.2.i 22) := ⟨_, rfl⟩
    rw [← hQ] at ex41 ⊢
    clear hQ
    have z1 : x41.2.i 20 = Q.i 20 + 1 := by
      unfold f_X0_add at ex41
      cases ex41
      rfl
    have z2 : Q.i 20 = x41.2.i 20 - 1 := by
      rw [z1]
      exact (Int32.add_sub_cancel _ _).symm
    have e1 : (1 : Int32).toInt = 1 := by decide
    have hi := Int32.toInt_lt (x41.2.i 20)
    have z3 : (Q.i 20).toInt = (x41.2.i 20).toInt - 1 := by
      rw [z2, toInt_sub] <;> rw [e1] <;> omega
    unfold pcC
    omega
  have evR22 : 0 ≤ (x41.2.i 22).toInt := by have := ev41.2.2.2.2.2.2.2.2.2.1; omega
  have u19s : (s.i 19).toInt ≤ (u.i 19).toInt := by have := w7.l19; omega
  refine j11.psd (r := vw x41.2 u c1) (R0 := x41.2) (u0 := u) (pcC c9.2, 0, []) (fun z => z.p0 (by rw [hr0]; decide) (NK.eq rfl rfl rfl rfl)) (D38.rf _) (D52.rf _) ⟨by omega, fun _ => by omega, ⟨fun y => by rcases y with y | y | y <;> rw [hr0] at y <;> exact absurd y (by decide), fun y => absurd (hr0.symm.trans y) (by decide), by rw [hr0]; decide⟩, fun _ => ⟨by omega, rfl⟩, by rw [hr0]; decide, by rw [hr0]; decide⟩ (Or.inl (by omega)) gkp u19s pls (fun y => ?_) (fun _ => ⟨by rw [r67]; decide, by rw [r66]; exact List.mem_cons_of_mem _ (List.mem_cons_of_mem _ List.mem_cons_self)⟩) (by rw [hr0]; decide) (fun k y => ⟨sv5 em.1, List.mem_cons_of_mem _ (List.mem_cons_of_mem _ List.mem_cons_self), ?_⟩) ?_ (fun _ => ?_) ⟨fun z => absurd (show dfr (vw x41.2 u c1).v = 1 from z) (by rw [hr0]; decide), fun y => by rcases y with y | y | y | y <;> rw [hr0] at y <;> exact absurd y (by decide), u11s, fun _ => ⟨by rw [r66, em1, i20e]; exact ⟨s20, by omega⟩, by rw [r66, ← u66, u22]; decide, (show 0 ≤ (x41.2.o c1.2.1 13).toInt by rw [v2, o13, ← i22']; exact evR22), (show (x41.2.o c1.2.1 13).toInt ≤ (x41.2.i 22).toInt by rw [v2, o13, i22']; exact Int.le_refl _), (show (x41.2.o c1.2.1 11).toInt < 0 by rw [v2, o11]; decide), x41p⟩, by rw [hr0]; decide⟩ (fun nm G' ω j _ ng fr wn hc' hh => ?_) (fun FC SF nm X' G' col YJ ω j Z gq hω r12 hc' hh k jr' cur => ?_)
  · rcases y with y | y | y | y <;> rw [hr0] at y <;> exact absurd y (by decide)
  · refine sv5.site.mpr ?_
    rw [← r66]
    unfold rsite at y
    rw [hr0] at y
    rcases y with ⟨-, y⟩ | ⟨y, -⟩ | ⟨y, -⟩ | ⟨y, -⟩
    · exact y
    · exact absurd y (by decide)
    · rcases y with y | y <;> exact absurd y (by decide)
    · rcases y with y | y <;> exact absurd y (by decide)
  · have e1 : rtgs (vw x41.2 u c1) = [x31.1, x36.1] := by
      unfold rtgs
      rw [hr0, if_neg (by decide), if_neg (by decide), if_pos (by decide), r9, r10]
    have e2 : ptl [tv x36.1, tv x31.1, sv5 em.1] = [x36.1, x31.1] := by
      show rtgs (tv x36.1) ++ (rtgs (tv x31.1) ++ (rtgs (sv5 em.1) ++ [])) = _
      rw [tv.tgs, tv.tgs, sv5.tgs]
      rfl
    rw [e1]
    exact (List.Perm.swap _ _ _).trans (List.Perm.of_eq e2.symm)
  · show (s.i 43).toInt ≤ ((ceG c1 : Nat) : Int) ∧ ((ceG c1 : Nat) : Int) < (u.i 43).toInt ∧ (u.a 48 (ceG c1)).toInt < 0 ∧ (u.a 49 (ceG c1)).toInt < 0 ∧ x41.2.o c1.2.1 2 = x41.2.i 38 ∧ (dln (vw x41.2 u c1).v = 0 → u.a 47 (ceG c1) = u.i 52) ∧ (dln (vw x41.2 u c1).v = 1 → u.a 47 (ceG c1) = u.i 52 + 1) ∧ NT5 (x41.2.o c1.2.1 9) ∧ (isLo (vw x41.2 u c1).v → NT5 (x41.2.o c1.2.1 10)) ∧ RHP (vw x41.2 u c1).v (vw x41.2 u c1).2.1
    have dl : dln (vw x41.2 u c1).v = 0 := by rw [hr0]; decide
    have n59 : NT5 x36.1 := by
      have h1 := evR.t21
      have h2 := (i11_hi evR).2
      have h3 := (nt5r ex31 ⟨h1.1, by omega⟩).2
      exact (nt5r ex36 ⟨show 0 ≤ (x31.2.i 21).toInt by omega, show (x31.2.i 21).toInt ≤ 4000 by omega⟩).1
    rw [eg, u48, u49, eM, dl, u47]
    rw [eg] at g43
    exact ⟨by omega, by omega, by omega, by omega, by rw [v2, i38']; exact o2X, fun _ => rfl, fun z => by omega, by rw [v2, o9]; exact n59, fun z => by rw [hr0] at z; rcases z with z | z | z | z <;> exact absurd z (by decide), RHP.no (by rw [hr0]; decide)⟩
  · rw [en]
    exact ⟨ng.g (Int.le_trans fr u19s), hc', Int.le_trans hh u11s⟩
  · obtain ⟨⟨s1', s2', s3', -⟩, ⟨t1', t2', t3', -⟩, -, kk⟩ := k
    rw [pcX] at s1' s2' s3'
    rw [pru] at t1' t2' t3'
    have e66 : ((vw x41.2 u c1).2.1 66).toNatClampNeg = pcR u0 := by rw [r66]; exact t2'
    have eg1 : (G' (vw x41.2 u c1).2.2.1).1 = pcC c9.2 := by rw [gq]
    have swh := jr'.2.2.2.2.2.2.1 hr0
    unfold SWH at swh
    rw [eg1, e66] at swh
    refine ⟨kk swh, fun y => absurd (hr0.symm.trans y) (by decide), fun y => absurd (hr0.symm.trans y) (by decide), fun y => absurd (hr0.symm.trans y) (by decide), fun y => absurd (hr0.symm.trans y) (by decide), fun _ => ⟨fun w hw => ?_, ?_⟩⟩
    · rw [gq] at hw
      exact absurd hw List.not_mem_nil
    · unfold SWF
      rw [eg1, e66, r10]
      exact ⟨s1', s2'.trans e10, s3', t1', t3'⟩
