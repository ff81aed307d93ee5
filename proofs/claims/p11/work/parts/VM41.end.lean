/-! both machines: units that end a try -/
theorem stp_fin {N H n m n0 : Nat} (hN : 10000000000 ≤ N) {D : Nat → List Nat} {T : Int32 × CS} {s0 : CS} {r0 : RS} {nm : Nat → Nat → Prop} {AL : Als} {s : CS} {r V : RS} {h u : Nat} {c : List Ent} {U : Int32 × RS} (hct : HCT nm AL) (st : STP N H D T s0 nm AL h u V s r c n0 (3990 * (r.i 80).toInt + 10000)) (hs : (r.i 80).toInt ≤ 1000) (ck : CTK nm c ∧ frs c ≤ 22 ∧ ∀ e ∈ c, e.h ≤ h) (ty : TYC s r AL u c) (hn : m < n) (run : f_X12_run_122 N m V = some U) (rf : RFX r0 V) : NXTW N H D T s0 r0 nm AL n U := by
  rcases st with st | ⟨S, R, nu, n1, x', q1, q2, q3, q4, ⟨q5, q6, q7⟩, q8, q9⟩
  · exact lv_fin hn run rf st
  · have lo := lv_main hN hct (by omega) c n0 S R nu n1 x' ck.1 ck.2.1 ck.2.2 (TYC.cg q5 q6 q7 q8 ty) q1 q2 q4 q3
    rw [q9] at lo
    exact lv_fin hn run rf lo
/-- a LEAVE's first tick -/
theorem lea_1 {nm : Nat → Nat → Prop} {s S : CS} {r : RS} {mu : Nat → Nat} {AL : Als} {h p q : Nat} {c : List Ent} {n : Int} (b : EXB nm (cNx s) (rNx r) mu AL h c n) (eS : S = CS.setI (CS.setI (CS.setI (cNx s) 73 1) 74 0) 75 (cAr s)) : EXB nm S (RS.setI (rNx r) 110 0) mu AL h c n ∧ S.i 73 = 1 ∧ S.i 75 = cAr s := by
  refine ⟨b.wpl ?_, ?_, ?_⟩
  · rw [eS]
    exact ⟨fun j _ a b d => by rw [ci_ne _ _ _ d, ci_ne _ _ _ b, ci_ne _ _ _ a], rfl, ⟨rfl, rfl, rfl, rfl⟩, fun j _ a => ri_ne (by omega), rfl⟩
  · rw [eS, ci_ne _ _ _ (by decide), ci_ne _ _ _ (by decide), ci_at]
  · rw [eS, ci_at]
/-- ENDCATCH -/
def UEnc (s0 : CS) (r0 : RS) (AL : Als) (p q h w : Nat) (c : List Ent) : Prop := s0.a 15 p = 60 ∧ r0.a 21 q = 34 ∧ ∃ (a : Ent) (c0 : List Ent) (u wg : Nat), c = a :: c0 ∧ a.k = 2 ∧ HFN s0 r0 AL a c0 u ∧ u ≤ wg ∧ wg + 3 ≤ w ∧ XIT s0 r0 AL (s0.a 16 p) h wg a c0
theorem u_enc {N H n : Nat} (hN : 10000000000 ≤ N) {D : Nat → List Nat} {T : Int32 × CS} {s0 : CS} {r0 : RS} {nm : Nat → Nat → Prop} {AL : Als} {s : CS} {r : RS} {mu : Nat → Nat} {h p q w g : Nat} {c : List Ent} {x : Int32} {U : Int32 × RS} (hct : HCT nm AL) (pt : PTX N H D T s0 r0 nm AL s r mu h p q w g c x) (hq : (q : Int) < (r0.i 20).toInt) (u : UEnc s0 r0 AL p q h w c) (e : f_X12_run_122 N n r = some U) : NXTW N H D T s0 r0 nm AL n U := by
  obtain ⟨y1, y2, a, c0, u, wg, ec, ak, y3, y4, y5, y6⟩ := u
  obtain ⟨m, S, V, hn, ⟨e1, e2, e3, e4⟩, ⟨v1, v2, v3⟩, ⟨o1, o2⟩, oc, ⟨hp, hq3⟩, x1⟩ := pt_tick hN hct pt hq (by omega) e
  have rf := pt.2.1
  have h21 : r.a 21 q = r0.a 21 q := by rw [rf.2 21 (by decide)]
  have mc := pt.2.2.1.1
  obtain ⟨-, ck, -, d22, hh⟩ := hct _ _ _ _ _ _ pt.2.2.2.2.1
  obtain ⟨t1, t2, t3⟩ := un_nx mc (by omega) (by omega)
  have dy := pt.2.2.1.2.1.ex ck t2 t3
  have tr := pt.2.2.1.2.2.ex t2 t3
  have gn := gcr_nn (g := g)
  have gn' := gpo_nn (g := g)
  have b6 := pt.2.2.2.2.2
  have eS : S = CS.setI (CS.setI (CS.setI (cNx s) 73 1) 74 0) 75 (cAr s) := xi_60 (o1.trans y1) e1
  obtain ⟨ex, s73, s75⟩ := lea_1 (p := p) (q := q) (t1.exb dy tr) eS
  have g1 := xp_34 (r := rNx r) (by rw [mc.clq]; exact h21.trans y2) v1
  have i99 : (rNx r).i 99 = r.i 99 := rNx_i (by decide)
  obtain ⟨W, hW⟩ : ∃ W, W = RS.setI (rNx r) 110 0 := ⟨_, rfl⟩
  rw [← hW] at ex g1
  have W110 : W.i 110 = 0 := by rw [hW, ri_at]
  have Wi : ∀ j : Nat, j ≠ 110 → W.i j = (rNx r).i j := fun j a => by rw [hW, ri_ne a]
  have wr : RFX r0 W := rf.tr (t3.rfx.tr ⟨fun j hj => Wi j (by omega), fun _ _ => by rw [hW]; rfl⟩)
  clear hW
  rw [ec] at ex d22 hh
  obtain ⟨x72, ⟨xv, xm, xn⟩, ⟨⟨⟨d0, d1⟩, ⟨d2, d2'⟩, d3, ⟨d4, d5⟩, d6, d7⟩, op⟩, xt⟩ := ex
  have hf : frs (a :: c0) = frs c0 + 1 := frs_up (by omega)
  have tp : tps (a :: c0) = tps c0 + 1 := by
    show tps c0 + (if a.k = 1 then 2 else if a.k = 2 then 1 else 0) = tps c0 + 1
    rw [if_neg (by omega), if_pos ak]
  have fp : fps (a :: c0) = fps c0 + 1154 := by
    show fps c0 + (if a.k = 0 then 2 else if a.k = 1 then 1460 else if a.k = 2 then 1154 else if a.k = 3 then 1152 else 0) = fps c0 + 1154
    rw [if_neg (by omega), if_neg (by omega), if_pos ak]
  rw [ec, fp] at b6
  obtain ⟨z1, z2⟩ := idx1 (r := W) (k := c0.length) d2'
  have w80 : W.i 80 = r.i 80 := (Wi 80 (by decide)).trans (rNx_i (by decide))
  have w99 : (rNx r).i 99 - 1 = W.i 99 - 1 := by rw [Wi 99 (by decide)]
  rw [w99] at g1
  have st := mc.2.2.1.1.2.2
  rcases d1 with ⟨k0, -⟩ | ⟨k0, -⟩ | ⟨k2, a1, ⟨a2, a3⟩, ⟨f, b, a4, a5, a6, a7, a8, a9⟩, a10⟩ | ⟨k0, -⟩ | ⟨k0, -⟩ | ⟨k0, -⟩
  · omega
  · omega
  · have top : TOPW S W a c0 f := ⟨⟨by rw [d2, hf]; omega, by omega⟩, ⟨a4.1, a4.2.1, a5, a4.2.2⟩, by rw [d2']; show ((c0.length + 1 : Nat) : Int) = _; omega, a1, a2, d0⟩
    have bl : BLW nm S W mu AL h c0 0 := ⟨x72, ⟨xv.mvh, xm, xn⟩, a10, op.tl (by omega), d3, ⟨d4, by omega⟩, d6, d7, xt⟩
    exact go_on (w := wg) hN (e3 x72) wr top bl (hh a List.mem_cons_self) s73 W110 y3 (by rw [s75, o2]; exact y6) (by rw [w80, x1]; omega) y4 (by omega) v2 v3 z1 (by rw [w80]; exact st) g1
  · omega
  · omega
  · omega
/-- ENDBODY -/
def UEnb (s0 : CS) (r0 : RS) (AL : Als) (p q h w : Nat) (c : List Ent) : Prop := s0.a 15 p = 60 ∧ r0.a 21 q = 33 ∧ ∃ (a : Ent) (c0 : List Ent) (u wg : Nat), c = a :: c0 ∧ a.k = 1 ∧ TYC s0 r0 AL u c ∧ u ≤ wg ∧ wg + 3 ≤ w ∧ XIT s0 r0 AL (s0.a 16 p) h wg a c0
theorem clo_n {N n : Nat} {r V : RS} {y : Int32} (hc : r.i 95 ≤ r.a 103 y.toNatClampNeg) (g : f_X12_closeAll_0 N n r y = some V) : V = r := by
  cases n with
  | zero => cases g
  | succ n =>
    have g' : b_X12_closeAll_0 N (f_X12_closeAll_0 N n) r y = some V := g
    unfold b_X12_closeAll_0 at g'
    obtain ⟨-, g2⟩ := hf_ite g'
    rw [if_pos hc] at g2
    exact (Option.some.inj g2).symm
theorem u_enb {N H n : Nat} (hN : 10000000000 ≤ N) {D : Nat → List Nat} {T : Int32 × CS} {s0 : CS} {r0 : RS} {nm : Nat → Nat → Prop} {AL : Als} {s : CS} {r : RS} {mu : Nat → Nat} {h p q w g : Nat} {c : List Ent} {x : Int32} {U : Int32 × RS} (hct : HCT nm AL) (pt : PTX N H D T s0 r0 nm AL s r mu h p q w g c x) (hq : (q : Int) < (r0.i 20).toInt) (u : UEnb s0 r0 AL p q h w c) (e : f_X12_run_122 N n r = some U) : NXTW N H D T s0 r0 nm AL n U := by
  obtain ⟨y1, y2, a, c0, u, wg, ec, ak, y3, y4, y5, y6⟩ := u
  obtain ⟨m, S1, V, hn, ⟨e1, e2, e3, e4⟩, ⟨v1, v2, v3⟩, ⟨o1, o2⟩, oc, ⟨hp, hq3⟩, x1⟩ := pt_tick hN hct pt hq (by omega) e
  have rf := pt.2.1
  have h21 : r.a 21 q = r0.a 21 q := by rw [rf.2 21 (by decide)]
  have mc := pt.2.2.1.1
  obtain ⟨-, ck, o320, d22, hh⟩ := hct _ _ _ _ _ _ pt.2.2.2.2.1
  obtain ⟨t1, t2, t3⟩ := un_nx mc (by omega) (by omega)
  have dy := pt.2.2.1.2.1.ex ck t2 t3
  have tr := pt.2.2.1.2.2.ex t2 t3
  have gn := gcr_nn (g := g)
  have gn' := gpo_nn (g := g)
  have b6 := pt.2.2.2.2.2
  have eS : S1 = CS.setI (CS.setI (CS.setI (cNx s) 73 1) 74 0) 75 (cAr s) := xi_60 (o1.trans y1) e1
  obtain ⟨ex, s73, s75⟩ := lea_1 (p := p) (q := q) (t1.exb dy tr) eS
  obtain ⟨P, p1, p2⟩ := xp_33 (r := rNx r) (by rw [mc.clq]; exact h21.trans y2) v1
  obtain ⟨W, hW⟩ : ∃ W, W = RS.setI (rNx r) 110 0 := ⟨_, rfl⟩
  rw [← hW] at ex p1
  have W110 : W.i 110 = 0 := by rw [hW, ri_at]
  have Wi : ∀ j : Nat, j ≠ 110 → W.i j = (rNx r).i j := fun j a => by rw [hW, ri_ne a]
  have wr : RFX r0 W := rf.tr (t3.rfx.tr ⟨fun j hj => Wi j (by omega), fun _ _ => by rw [hW]; rfl⟩)
  clear hW
  rw [ec] at ex d22 hh ck y3 o320
  obtain ⟨x72, ⟨xv, xm, xn⟩, ⟨dd, ⟨q1, q2, q3, q4, q5, q6⟩⟩, xt⟩ := ex
  obtain ⟨⟨d0, d1⟩, ⟨d2, d2'⟩, d3, ⟨d4, d5⟩, d6, d7⟩ := id dd
  have hf : frs (a :: c0) = frs c0 + 1 := frs_up (by omega)
  have fp : fps (a :: c0) = fps c0 + 1460 := by
    show fps c0 + (if a.k = 0 then 2 else if a.k = 1 then 1460 else if a.k = 2 then 1154 else if a.k = 3 then 1152 else 0) = fps c0 + 1460
    rw [if_neg (by omega), if_pos ak]
  have op : ops (a :: c0) = ops c0 + a.z := by
    show ops c0 + (if a.k = 1 then a.z else 0) = ops c0 + a.z
    rw [if_pos ak]
  rw [ec, fp] at b6
  obtain ⟨z1, z2⟩ := idx1 (r := W) (k := c0.length) d2'
  have w80 : W.i 80 = r.i 80 := (Wi 80 (by decide)).trans (rNx_i (by decide))
  have w99 : (rNx r).i 99 - 1 = W.i 99 - 1 := by rw [Wi 99 (by decide)]
  rw [w99] at p1 p2
  have st := mc.2.2.1.1.2.2
  have cr1 := e3 x72
  have hr : REFS S1 := cr1.1.1
  rcases d1 with ⟨k0, -⟩ | ⟨k1, a1, ⟨a2, a3⟩, ⟨f, a4, a5, a6, a7, a8⟩, a9⟩ | ⟨k0, -⟩ | ⟨k0, -⟩ | ⟨k0, -⟩ | ⟨k0, -⟩
  · omega
  · have T0 := y6.1
    have lt : LTG S1 := by
      unfold LTG
      rw [Int32.lt_iff_toInt_lt, s75, o2, T0.1, d2, hf]
      omega
    have h67 : (S1.i 67).toInt = (frs c0 : Int) + 1 := by
      rw [d2, hf]
      omega
    obtain ⟨S2, g1, g2, g3⟩ := cr1.lv hN x72 (by rw [s73]; decide) (by omega)
    have g4 := lo_b h67 (by omega) a4.1 lt a4.2.1 g1
    have fk : oK S1 f 1 := hr.2.2.2.1 (frs c0) f (by omega) a4.1
    have e1' : (1 : Int32).toInt = 1 := by decide
    have hx : (S1.i 68 - 1).toInt = (W.i 95).toInt - 1 := by
      rw [q1, toInt_sub] <;> rw [e1'] <;> omega
    have cli : CLI nm H S1 W mu AL h (a :: c0) 0 u := ⟨⟨hr, cr1.1.2.1⟩, x72, ⟨xv.mvh, xm, xn⟩, ⟨⟨d0, Or.inr (Or.inl ⟨k1, a1, ⟨a2, a3⟩, ⟨f, a4, a5, a6, a7, a8⟩, a9⟩)⟩, ⟨d2, d2'⟩, d3, ⟨d4, by omega⟩, d6, d7⟩, ⟨by decide, fun _ => rfl⟩, Or.inl ⟨s73, W110⟩, xt, ⟨q2, by omega⟩, q5⟩
    obtain ⟨j1, j2⟩ := q6.1 ak
    obtain ⟨S, nu, n1, b1, b2, b3, b4, b5, b6', ⟨b7, b8⟩, b9, b80⟩ := cl_all (f := f) (by omega) ck d22 N N S1 W mu 0 (S1.i 68 - 1) ((), S2) P cli hx fk (by rw [z2]; exact a6) (by rw [a6]; exact a7) (by rw [a6]; exact j1) g4 p1
    have rfx : RFX W P := kx_f_X12_closeAll N W _ P p1
    have prf := wr.tr rfx
    have c15 : S2.a 15 = s0.a 15 := g3.2.1.2.1 15 (by decide)
    have c16 : S2.a 16 = s0.a 16 := g3.2.1.2.1 16 (by decide)
    have c17 : S2.a 17 = s0.a 17 := g3.2.1.2.1 17 (by decide)
    have e95 : P.i 95 = P.a 103 c0.length := by rw [b2, a6, b9]
    have acl : ACL nm H S P nu AL h u f a c0 n1 := by
      obtain ⟨-, -, -, ⟨⟨dd0, dd1⟩, -⟩, -⟩ := id b1
      rcases dd1 with ⟨k0, -⟩ | ⟨-, k1', ⟨k2', k3'⟩, ⟨f', k4', k5', k6', k7', k8'⟩, k9'⟩ | ⟨k0, -⟩ | ⟨k0, -⟩ | ⟨k0, -⟩ | ⟨k0, -⟩
      · omega
      · have ef : f' = f := by
          have y1 := k4'.1
          rw [b6', a4.1] at y1
          exact (Option.some.inj y1).symm
        rw [ef] at k4' k5' k6'
        refine ⟨b1, ⟨k4'.1, k5', k4'.2.2⟩, ⟨k1', k2', dd0, k3'⟩, k9', ⟨by rw [b2, b8], by rw [e95]; exact k8', by omega, ?_⟩⟩
        rw [e95, b9]
        exact j2.of (fun k _ => by rw [b9])
      · omega
      · omega
      · omega
      · omega
    have p80 : P.i 80 = r.i 80 := b80.trans w80
    have ckc : CTK nm c0 ∧ frs c0 ≤ 22 ∧ ∀ e ∈ c0, e.h ≤ h := ⟨ck.2.2, by omega, fun e he => hh e (List.mem_cons_of_mem _ he)⟩
    have x2 : (x + 1 + 1).toInt = x.toInt + 1 + 1 := by
      have x0 := (bud_x pt).2
      rw [ad1 (by omega) (by omega), x1]
    have y10 := b1.2.2.2.2.2.1
    by_cases t4 : S.i 73 = 4
    · -- one is thrown
      rcases p2 with ⟨p4, lv⟩ | ⟨p4, -⟩
      · obtain ⟨N', hN'⟩ : ∃ N' : Nat, N = N' + 1 := ⟨N - 1, by omega⟩
        have lv' : f_X12_leave_0 N (N' + 1) P = some V := by
          have q : f_X12_leave_0 N N P = some V := lv
          have q' : f_X12_leave_0 N N = f_X12_leave_0 N (N' + 1) := congrArg (f_X12_leave_0 N) hN'
          rw [← q']
          exact q
        have p99 : (P.i 99).toInt = (c0.length : Int) + 1 := by
          have := b1.2.2.2.1.2.1.2
          rw [this]
          show ((c0.length + 1 : Nat) : Int) = _
          omega
        have z0 : (0 : Int32).toInt = 0 := by decide
        have ng : LVG P := Or.inr ⟨by rw [p4]; decide, by rw [p4]; decide, fun q => by have := le_int q; omega⟩
        obtain ⟨k1', k2'⟩ := idx1 (r := P) (k := c0.length) (by rw [p99]; omega)
        obtain ⟨P2, i1, i2⟩ := lv_r40 k2' acl.2.2.1.1 acl.2.2.1.2.2.2 (lv_ng ng lv')
        have eP2 : P2 = P := clo_n (by rw [k2', e95]; exact Int32.le_refl _) (show f_X12_closeAll_0 N N P (P.i 99 - 1) = some P2 from i1)
        rw [eP2] at i2
        rcases i2 with ⟨-, i3⟩ | ⟨i3, -⟩
        · have sp := thr_in (B := 3990 * (P.i 80).toInt + 10000) hN hct ak d22 acl t4 (fun b w1 => b4 b t4 w1) g3 (hh a List.mem_cons_self) ((y3.1 ak).cg c15 c16 c17 prf) ((y3.2.1 (Or.inl ak)).cg c17 prf) (by rw [p80, x2]; omega) (by rw [p80]; omega) k1' i3
          exact stp_fin hN hct sp (by rw [p80]; exact st) ckc (TYC.cg c15 c16 c17 prf y3.2.2) (by omega) v2 v3
        · exact absurd p4 i3
      · exact absurd (y10.h4.mp t4) p4
    · -- none is thrown
      have eS2 : S2 = cFb S f := b3 t4
      obtain ⟨u1, u2, ⟨u3, u4, u5, u6, u7⟩, u8, u9, u10⟩ := cfb_f (s := S) (f := f)
      rw [← eS2] at u1 u2 u3 u4 u5 u6 u7 u8 u9 u10
      clear eS2
      rcases b5 with b5 | ⟨j3, j4, j5, j6, j7⟩
      · exact absurd b5 t4
      obtain ⟨bl, top, tv⟩ := acl_blw (S1 := S2) ak d22 acl u3 u4 u7 (fun g' hg => ⟨u8 g' hg, by rw [u6]⟩) (fun j _ _ j3 _ _ _ => u1 j j3) u2 (fun _ => ⟨u1 65 (by decide), t4⟩) u9 u10
      rcases p2 with ⟨p4, -⟩ | ⟨-, p4⟩
      · rw [j6, W110] at p4
        exact absurd p4 (by decide)
      · exact go_on (w := wg) hN g3 prf top bl (hh a List.mem_cons_self) (by rw [u1 73 (by decide), j3]; exact s73) (by rw [j6]; exact W110) (y3.2.1 (Or.inl ak)) (by rw [u1 75 (by decide), j5, s75, o2]; exact y6) (by rw [p80, x2]; omega) y4 (by omega) v2 v3 z1 (by rw [p80]; exact st) p4
  · omega
  · omega
  · omega
  · omega
