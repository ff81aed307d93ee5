/-! both readers: a factor -/
theorem tk_is {d : Int32} {S : CS} {s : RS} (h : ENV d S s) {a b : Int32} (hc : tyR a) (e : tm a = b) : S.i 43 = a ↔ s.i 10 = b := h.1.2.2.2.1.is hc e
/-- a fault of the reference ends all -/
theorem u_flt {N n : Nat} {V U : RS} (g : f_X12_parse_10 N n V = some U) (h : ¬ V.i 15 = 0) : ¬ U.i 15 = 0 := by rw [rl_f g h]; exact h
theorem o19 {a b : RS} (h : (a.i 19).toInt = (b.i 19).toInt) : a.i 19 = b.i 19 := Int32.toInt_inj.mp h
/-- opens, then next: as open does it -/
theorem e_open {N : Nat} {s : RS} {d : Int32} (h15 : s.i 15 = 0) (h10 : s.i 10 = d) (h6 : ¬ d = 6) : f_X12_open N s d = (f_X12_opens N s).bind fun p7 => (if p7.1 = 0 then f_X12_open_38 N p7.2 else (f_X12_next N p7.2).bind fun p10 => f_X12_open_38 N p10) := by
  unfold f_X12_open f_X12_open_27
  rw [if_pos h15, if_pos h10, y_can1 h15 (by rw [h10]; exact h6), ob_some]
  exact if_neg n10
/-- a choice, from its word on -/
def SXC (N : Nat) (E : CS → Option (Unit × CS)) : Prop := ∀ (d : Int32) (S : CS) (s U : RS) (n t : Nat) (R : Unit × CS), ENV d S s → tpI s = t → s.a 64 t = 19 → s.a 65 t = 0 → 3 ≤ phI s → S.i 43 = 218 → E S = some R → f_X12_parse_10 N n s = some U → (¬ R.2.i 32 = 0 ∧ ¬ U.i 15 = 0) ∨ ∃ (m : Nat) (u : RS), f_X12_parse_10 N m u = some U ∧ XO d t S s R.2 u ∧ CDE 0 U S s R.2 u
set_option maxHeartbeats 4000000 in
theorem sx_factor {N : Nat} (hN : 1000 ≤ N) {E1 : CS → Option (Unit × CS)} {E2 : CS → Option (Int32 × CS)} (hm1 : ∀ σ, Kf (CS.i σ 32) (E1 σ)) (hm2 : ∀ σ, Kf (CS.i σ 32) (E2 σ)) (hE : SXR N 18 E1) (hA : SXC N (f_X1_choice N E1 E2)) : SXR N 18 (f_X1_factor N E1 E2) := by
  intro d S s U n t R hv ht hk hs h3 e g
  have h15 := hv.1.2.1
  have en := tp_nat ht
  obtain ⟨m, V, hV, g2⟩ := rl_18 g ht h15 hk
  have t9 : t < 1000 := by
    have := (rl_0 g ht h15).2.1.2
    have h2 : (s.i 63).toInt = (t : Int) := ht
    omega
  have i1 := tk_is hv (a := 1) (b := 1) (Or.inl ⟨by decide, by decide⟩) (by decide)
  have i2 := tk_is hv (a := 2) (b := 2) (Or.inl ⟨by decide, by decide⟩) (by decide)
  have i45 := tk_is hv (a := 45) (b := 45) (Or.inl ⟨by decide, by decide⟩) (by decide)
  have i40 := tk_is hv (a := 40) (b := 40) (Or.inl ⟨by decide, by decide⟩) (by decide)
  have isw := tk_is hv (a := 218) (b := 428) (Or.inr ⟨by decide, by decide⟩) (by decide)
  unfold f_X12_factor f_X12_factor_124 f_X12_factor_215 at hV
  obtain ⟨hib, hV⟩ := hf_ite hV
  rw [en, if_neg (by rw [hs]; decide), if_neg (by rw [hs]; decide)] at hV
  unfold f_X1_factor at e
  have n6 : ∀ v : Int32, ¬ v = 6 → s.i 10 = v → f_X12_can N s 1 = some (1, s) := fun v hv6 q => y_can1 h15 (by rw [q]; exact hv6)
  by_cases c1 : S.i 43 = 1
  · have k1 := i1.mp c1
    rw [if_pos c1] at e
    obtain ⟨p2, e1, e⟩ := hf_bind e
    obtain ⟨p6, e2, e⟩ := hf_bind e
    cases e
    rw [if_pos k1, n6 1 (by decide) k1, ob_some, if_neg n10, if_pos k1] at hV
    obtain ⟨w, hw, hV⟩ := hf_bind hV
    obtain ⟨v, hw2, hV⟩ := hf_bind hV
    cases hV
    obtain ⟨w1, w2, w3, w4, -, -⟩ := em_env hv (by omega) hw
    obtain ⟨kq, y10, y11, -, -, -, -, y17, y19, -⟩ := qj2_eq w3
    have kd := kd_X0_add N S 0 (S.i 45) p2 e1
    obtain ⟨kp, -, -, -, e22, -, -, e43, -, -, -, e18⟩ := pj2_eq kd
    obtain ⟨a1, a2, a3, a4, a5, a6, a7, a8, a9, a10⟩ := (w1.kd kd).adv hN (by rw [e43, c1]; decide) e2 hw2
    have tv : tpI v = t := by
      have r1 : v.i 63 = w.2.i 63 := congrArg (fun v : QJT => v.1.2.2.2.2.2.2.2.2.2.2.2.2.2.2.2.2.1) a2
      have r2 : w.2.i 63 = s.i 63 := congrArg (fun v : QJT => v.1.2.2.2.2.2.2.2.2.2.2.2.2.2.2.2.2.1) kq
      show (v.i 63).toInt = (t : Int)
      rw [r1, r2]
      exact ht
    have t17 : (v.i 17).toInt = (s.i 17).toInt + 1 := by rw [a4, y17]; exact t17_up (N := N) hv
    refine Or.inr ⟨m, _, g2, ⟨pop_env a1, tp_sub tv t9, ((FRB.of kq).tr (FRB.of a2)).tr pop_frb, (w2.tr (TBK.of a2 (by rw [a6]; exact Int.le_refl _) (fun j _ => by rw [a7]))).tr pop_tbk, (CKX.of kp e22 e18).tr (CKX.of a3 a8 a9), ?_, ?_, ?_, ?_⟩, ?_⟩
    · show (s.i 11).toInt + 1 ≤ (v.i 11).toInt
      rw [y11] at a5
      exact a5
    · show phI s + 1 ≤ phI v
      have : phI v = phI w.2 + 3 := by
        unfold phI
        rw [a6, t17, y17]
        omega
      omega
    · show (s.i 17).toInt + 1 ≤ (v.i 17).toInt
      omega
    · exact a10.trans y19
    · exact cde_one hN hv (by omega) e1 hw (w1.kd kd) (by rw [e43, c1]; decide) e2 hw2 (fun FC SF nm X c h w1' g0 pq hc hh ng x1 x2 x3 x4 z => gs_push pq hc x1 x3 (by rw [x2, x4]; exact hv.1.2.2.2.1.2.2.2.2.2 (Or.inl c1)) hh (Or.inl rfl) z)
  rw [if_neg c1] at e
  rw [if_neg (fun q => c1 (i1.mpr q))] at hV
  by_cases c2 : S.i 43 = 2
  · have k2 := i2.mp c2
    have k1 : ¬ s.i 10 = 1 := fun q => c1 (i1.mpr q)
    rw [if_pos c2] at e
    obtain ⟨p, e1, e⟩ := hf_bind e
    cases e
    rw [if_pos k2, n6 2 (by decide) k2, ob_some, if_neg n10, if_neg k1, if_pos k2] at hV
    obtain ⟨q, hq, hV⟩ := hf_bind hV
    unfold f_X1_loadName at e1
    obtain ⟨f, hf, e1⟩ := hf_bind e1
    have el : S.l = s.l := hv.1.2.2.2.1.2.2.2.2.1 c2
    rw [el] at hf
    obtain ⟨z1, z2, z3, z4, z5⟩ := y_find hv hf hq
    rw [z1] at e1
    rw [z2] at hV
    by_cases c0 : 0 ≤ f.1
    · rw [if_pos c0] at e1
      rw [if_pos (by rw [← z3]; exact c0)] at hV
      obtain ⟨-, hV⟩ := hf_ite hV
      obtain ⟨x6, ex6, e1⟩ := hf_bind e1
      obtain ⟨x10, ex10, e1⟩ := hf_bind e1
      obtain ⟨x14, ex14, e1⟩ := hf_bind e1
      cases e1
      have kd1 := kd_X4_cellOf N S f.1 x6 ex6
      have kd2 := (kd_X0_add N x6.2 1 x6.1 x10 ex10).trans kd1
      obtain ⟨kp, -, -, -, e22, -, -, e43, -, -, -, e18⟩ := pj2_eq kd2
      have ex10' : f_X0_add N S 1 (gAt (S.a 48) 128 f.1) = some x10 := by
        unfold f_X4_cellOf at ex6
        cases ex6
        exact ex10
      have fin : ∀ (o x : Int32), (∀ (FC : Nat → Prop) (SF : CS) (nm : Nat → Nat → Prop) (X : Als) (c : List Ent) (h w1 g0 : Nat), PQX SF U (pcC S) (pcR s) → HC0 nm h c → h < 600 → NMG nm c S s → SF.a 15 (pcC S) = 1 → SF.a 16 (pcC S) = gAt (S.a 48) 128 f.1 → U.a 21 (pcR s) = o → U.a 22 (pcR s) = x → GU FC SF U nm X (pcC S + 1) (pcR s + 1) (h + 1) w1 0 c → GU FC SF U nm X (pcC S) (pcR s) h (w1 + 1) g0 c) → ((f_X12_emit N s o x).bind fun p29 => (f_X12_next N p29.2).bind fun p31 => some (RS.setI p31 63 ((p31.i 63) - 1))) = some V → (¬ x14.2.i 32 = 0 ∧ ¬ U.i 15 = 0) ∨ ∃ (m : Nat) (u : RS), f_X12_parse_10 N m u = some U ∧ XO d t S s x14.2 u ∧ CDE 0 U S s x14.2 u := fun o x step hV => by
        obtain ⟨w, hw, hV⟩ := hf_bind hV
        obtain ⟨v, hw2, hV⟩ := hf_bind hV
        cases hV
        obtain ⟨w1, w2, w3, w4, -, -⟩ := em_env hv (by omega) hw
        obtain ⟨kq, y10, y11, -, -, -, -, y17, y19, -⟩ := qj2_eq w3
        obtain ⟨a1, a2, a3, a4, a5, a6, a7, a8, a9, a10⟩ := (w1.kd kd2).adv hN (by rw [e43, c2]; decide) ex14 hw2
        have tv : tpI v = t := by
          have r1 : v.i 63 = w.2.i 63 := congrArg (fun v : QJT => v.1.2.2.2.2.2.2.2.2.2.2.2.2.2.2.2.2.1) a2
          have r2 : w.2.i 63 = s.i 63 := congrArg (fun v : QJT => v.1.2.2.2.2.2.2.2.2.2.2.2.2.2.2.2.2.1) kq
          show (v.i 63).toInt = (t : Int)
          rw [r1, r2]
          exact ht
        have t17 : (v.i 17).toInt = (s.i 17).toInt + 1 := by rw [a4, y17]; exact t17_up (N := N) hv
        refine Or.inr ⟨m, _, g2, ⟨pop_env a1, tp_sub tv t9, ((FRB.of kq).tr (FRB.of a2)).tr pop_frb, (w2.tr (TBK.of a2 (by rw [a6]; exact Int.le_refl _) (fun j _ => by rw [a7]))).tr pop_tbk, (CKX.of kp e22 e18).tr (CKX.of a3 a8 a9), ?_, ?_, ?_, ?_⟩, ?_⟩
        · show (s.i 11).toInt + 1 ≤ (v.i 11).toInt
          rw [y11] at a5
          exact a5
        · show phI s + 1 ≤ phI v
          have : phI v = phI w.2 + 3 := by
            unfold phI
            rw [a6, t17, y17]
            omega
          omega
        · show (s.i 17).toInt + 1 ≤ (v.i 17).toInt
          omega
        · exact a10.trans y19
        · exact cde_one hN hv (by omega) ex10' hw (w1.kd kd2) (by rw [e43, c2]; decide) ex14 hw2 step
      obtain ⟨k, fk, kl, -, -⟩ : ∃ k : Nat, f.1.toInt = (k : Int) ∧ (k : Int) < (s.i 38).toInt ∧ S.b 47 k = s.l ∧ s.b 39 k = s.l := by
        rcases z4 with z | z
        · rw [z] at c0
          exact absurd c0 (by decide)
        · exact z
      have k128 := (nms_hi hv).2
      have ga : gAt (S.a 48) 128 f.1 = S.a 48 k := by
        unfold gAt
        rw [if_pos ⟨by omega, by omega⟩, cl_nat fk]
      have qk : q.1.toNatClampNeg = k := by rw [← z3]; exact cl_nat fk
      have n41 := (hv.2.1.2.2.1 k kl).2
      by_cases cc : s.a 41 q.1.toNatClampNeg = 0
      · rw [if_pos cc] at hV
        rw [qk] at cc hV
        refine fin _ _ (fun FC SF nm X c h w1 g0 pq hc hh ng x1 x2 x3 x4 z => ?_) hV
        obtain ⟨a, b, y1, y2, y3⟩ := (ng.1 k kl).1 (by have : ¬ 0 ≤ (S.a 49 k).toInt := fun y => n41.mp y cc; omega)
        exact gs_load pq hc x1 x3 (by rw [x2, ga]; exact y1) (by rw [x4]; exact y2) y3 hh z
      · rw [if_neg cc] at hV
        rw [qk] at cc hV
        refine fin _ _ (fun FC SF nm X c h w1 g0 pq hc hh ng x1 x2 x3 x4 z => ?_) hV
        obtain ⟨l1, e9, l0, y00, y1, y2, y3, -⟩ := (ng.1 k kl).2 (n41.mpr cc)
        have y0 : e9 ∈ c := by
          rw [y00]
          exact List.mem_append_right _ List.mem_cons_self
        exact gs_cau pq hc x1 x3 y0 y1 (by rw [x2, ga]; exact y2) (by rw [x4]; exact y3) hh z
    · rw [if_neg c0] at e1
      rw [if_neg (by rw [← z3]; exact c0)] at hV
      obtain ⟨x, ex, e1⟩ := hf_bind e1
      cases e1
      rw [e_fail, ob_some, if_pos h15] at hV
      cases hV
      refine Or.inl ⟨y_fail (by decide) ex, u_flt g2 ?_⟩
      show ¬ (3 : Int32) = 0
      decide
  rw [if_neg c2] at e
  rw [if_neg (fun q => c2 (i2.mpr q))] at hV
  have k1 : ¬ s.i 10 = 1 := fun q => c1 (i1.mpr q)
  have k2 : ¬ s.i 10 = 2 := fun q => c2 (i2.mpr q)
  by_cases c40 : S.i 43 = 40
  · have k40 := i40.mp c40
    have k45 : ¬ s.i 10 = 45 := by rw [k40]; decide
    rw [if_pos c40] at e
    rw [if_neg k45, if_pos k40, n6 40 (by decide) k40, ob_some, if_neg n10, if_neg k1, if_neg k2, if_neg k45, if_pos k40] at hV
    obtain ⟨q, hq, hV⟩ := hf_bind hV
    rw [ob_id] at hV
    obtain ⟨p, e1, e⟩ := hf_bind e
    obtain ⟨x, e2, e⟩ := hf_bind e
    obtain ⟨y, e3, e⟩ := hf_bind e
    cases e
    have per : ¬ x.2.i 32 = 0 → ¬ y.2.i 32 = 0 := fun z => by rw [kF_X1_close N x.2 41 y e3 z]; exact z
    have per0 : ¬ p.2.i 32 = 0 → ¬ x.2.i 32 = 0 := fun z => by rw [kF_X1_expression N E1 E2 hm1 hm2 p.2 x e2 z]; exact z
    rcases y_open hN hv (c := 40) (d := 40) (Or.inl ⟨by decide, by decide⟩) (by decide) (by decide) (by decide) e1 hq with ⟨o1, o2, o3⟩ | ⟨o1, o2, o3, o4, o5, o6, o7, o8, o9, o10, o11, o12⟩
    · refine Or.inl ⟨per (per0 o2), u_flt g2 ?_⟩
      have f9 := krf_f_X12_then N q.2 2 16 V hV
      exact f9 o3
    · have tq : tpI q.2 = t := by
        have r1 : q.2.i 63 = s.i 63 := congrArg (fun v : QJT => v.1.2.2.2.2.2.2.2.2.2.2.2.2.2.2.2.2.1) o4
        show (q.2.i 63).toInt = (t : Int)
        rw [r1]
        exact ht
      obtain ⟨hV', t99⟩ := r_then tq hV
      rw [hV'] at g2
      have t17 : (q.2.i 17).toInt = (s.i 17).toInt + 1 := by rw [o6]; exact t17_up (N := N) hv
      have pq : phI q.2 = phI s + 3 := by
        unfold phI
        rw [o8, t17]
        omega
      rcases sx_expression hN hm1 hm2 hE d p.2 (TH q.2 t 2 16) U m (t + 1) x o3.th (TH.tp tq (by omega)) TH.fk TH.fs (show 3 ≤ phI q.2 by omega) e2 g2 with ⟨x1, x2⟩ | ⟨m2, u, g3, xo, xc⟩
      · exact Or.inl ⟨per x1, x2⟩
      · obtain ⟨w1, w2, w3, w4, w5, w6, w7, w8, w9⟩ := xo
        have u64 : u.a 64 t = 18 := by
          rw [(w3 t (by omega)).1, TH.fk0 (Nat.le_refl t), ((FRB.of (t := t + 1) o4) t (by omega)).1]
          exact hk
        have u65 : u.a 65 t = 2 := by
          rw [(w3 t (by omega)).2.1]
          exact TH.st
        have tu : tpI u = t := by
          rw [w2]
          omega
        have w6' : (q.2.i 11).toInt + 1 ≤ (u.i 11).toInt := w6
        have w7' : phI q.2 + 1 ≤ phI u := w7
        have w8' : (q.2.i 17).toInt + 1 ≤ (u.i 17).toInt := w8
        have w9' : u.i 19 = q.2.i 19 := w9
        obtain ⟨m3, V3, hV3, g4⟩ := rl_18 g3 tu w1.1.2.1 u64
        unfold f_X12_factor at hV3
        obtain ⟨-, hV3⟩ := hf_ite hV3
        rw [tp_nat tu, if_neg (by rw [u65]; decide), if_pos u65] at hV3
        obtain ⟨z, hz, hV3⟩ := hf_bind hV3
        cases hV3
        have ho := hv.2.2.1
        have u19 : (u.i 19).toInt = (s.i 19).toInt + 1 := by rw [w9', o12]
        rcases y_close hN w1 (sg_room hv w1 ((CKX.of o5 o10 o11).tr w5) (by omega)) (c := 41) (d := 41) (Or.inl ⟨by decide, by decide⟩) (by decide) (by decide) (by decide) e3 hz with ⟨b1, b2, b3⟩ | ⟨b1, b2, b3, b4, b5, b6, b7, b8, b9, b10, b11, b12⟩
        · exact Or.inl ⟨b2, u_flt g4 b3⟩
        · have tz : tpI z.2 = t := by
            have r1 : z.2.i 63 = u.i 63 := congrArg (fun v : QJT => v.1.2.2.2.2.2.2.2.2.2.2.2.2.2.2.2.2.1) b4
            show (z.2.i 63).toInt = (t : Int)
            rw [r1]
            exact tu
          have z17 : (z.2.i 17).toInt = (u.i 17).toInt + 1 := by rw [b6]; exact t17_up (N := N) w1
          have pz : phI z.2 = phI u + 3 := by
            unfold phI
            rw [b8, z17]
            omega
          refine Or.inr ⟨m3, _, g4, ⟨pop_env b3, tp_sub tz t9, ((((FRB.of o4).tr TH.frb).tr (w3.mo (by omega))).tr (FRB.of b4)).tr pop_frb, ((((TBK.of o4 (by rw [o8]; exact Int.le_refl _) (fun j _ => by rw [o9])).tr TH.tbk).tr w4).tr (TBK.of b4 (by rw [b8]; exact Int.le_refl _) (fun j _ => by rw [b9]))).tr pop_tbk, ((CKX.of o5 o10 o11).tr w5).tr (CKX.of b5 b10 b11), ?_, ?_, ?_, ?_⟩, fun cr => ?_⟩
          · show (s.i 11).toInt + 1 ≤ (z.2.i 11).toInt
            omega
          · show phI s + 1 ≤ phI z.2
            omega
          · show (s.i 17).toInt + 1 ≤ (z.2.i 17).toInt
            omega
          · exact o19 (by show (z.2.i 19).toInt = _; rw [b12]; omega)
          · obtain ⟨a1, a2, a3, a4, a5, a6⟩ := tok_cd hv o3 o5 (ke_X1_open N S 40 p e1) (kre_f_X12_open N s 40 q hq) o7
            have crp : CRB p.2 := cr.of a1 (by omega) (by omega)
            obtain ⟨f1, f2, f3, f4⟩ := xc crp
            have crx : CRB x.2 := crp.of f1 (by omega) (by omega)
            obtain ⟨j1, j2, j3, j4, j5, j6⟩ := tok_cd w1 b3 b5 (ke_X1_close N x.2 41 y e3) (kre_f_X12_shut N u 41 z hz) b7
            have sT : CD2 (s.i 20).toInt s (TH q.2 t 2 16) := (a3 _).tr (CD2.qe rfl)
            have su : CD2 (s.i 20).toInt s u := sT.tr (f3.wk (by show _ ≤ (q.2.i 20).toInt; rw [a6]; exact Int.le_refl _))
            have kT : TBK s (TH q.2 t 2 16) := (TBK.of o4 (by rw [o8]; exact Int.le_refl _) (fun j _ => by rw [o9])).tr TH.tbk
            refine ⟨((a1.tr f1).tr j1).wk (by omega) (by omega), ((a2 _ _).tr (f2.wk (Int.le_refl _) (by rw [a5]; exact Int.le_refl _))).tr (j2 _ _), (su.tr (j3 _)).tr (CD2.qe rfl), ?_⟩
            obtain ⟨Ψ1, sat1, f4⟩ := f4
            refine ⟨Ψ1, sat1.wd (MNO.of a1 sT) (MNO.of j1 ((j3 0).tr (CD2.qe rfl))), ?_⟩
            intro FC SF nm X c h w0 W g0 ps fc fr ng hc hh ty hW hg zz
            have pS : pcC p.2 = pcC S := by unfold pcC; rw [a4]
            have px : pcC y.2 = pcC x.2 := by unfold pcC; rw [j4]
            have pu : ∀ v : Int32, pcR (RS.setI z.2 63 v) = pcR u := fun v => by
              unfold pcR
              rw [show (RS.setI z.2 63 v).i 20 = z.2.i 20 from rfl, j6]
            rw [px, pu] at zz
            have z1 := f4 FC SF nm X c h w0 W g0 ps (fc.sub a1 j1 (j2 _ _)) (fr.sub sT ((j3 0).tr (CD2.qe rfl)) (((j3 (u.i 20).toInt).tr (CD2.qe rfl)).c3 (Int.le_refl _))) (ng.mv hv.2.1.1 a1 sT kT.1.1.2.2.2.1 (fun j hj => (kT.1.2.1 j hj).2.1) (show (s.i 19).toInt ≤ (q.2.i 19).toInt by rw [o12]; omega)) hc (show ((2 * h + 0 + msr c : Nat) : Int) ≤ (q.2.i 11).toInt by omega) ty hW hg zz
            rw [pS, show pcR (TH q.2 t 2 16) = pcR s by unfold pcR; rw [show (TH q.2 t 2 16).i 20 = q.2.i 20 from rfl, a6]] at z1
            rw [px]
            exact z1
  rw [if_neg c40] at e
  have k40 : ¬ s.i 10 = 40 := fun q => c40 (i40.mpr q)
  by_cases c45 : S.i 43 = 45
  · have k45 := i45.mp c45
    rw [if_pos c45] at e
    rw [if_pos k45, n6 45 (by decide) k45, ob_some, if_neg n10, if_neg k1, if_neg k2, if_pos k45] at hV
    obtain ⟨p29, e1, e⟩ := hf_bind e
    cases e
    unfold f_X1_negated f_X1_negated_17 at e1
    obtain ⟨p, ep, e1⟩ := hf_bind e1
    obtain ⟨q7, hq7, hV⟩ := hf_bind hV
    have eo := e_open (N := N) h15 k45 (by decide)
    rw [hq7, ob_some] at eo
    have neg : ∀ (T : CS) (W : Unit × CS), ((f_X0_add N (CS.setI T 34 (T.i 34 - 1)) 4 0).bind fun p6 => some ((), p6.2)) = some W → W.2.i 32 = T.i 32 := fun T W hW => by
      obtain ⟨x, ex, hW⟩ := hf_bind hW
      cases hW
      exact (show x.2.i 32 = (CS.setI T 34 (T.i 34 - 1)).i 32 from fst_add ex)
    by_cases c0 : q7.1 = 0
    · rw [if_pos c0] at hV eo
      cases hV
      unfold f_X12_open_38 at eo
      have f7 : ¬ q7.2.i 15 = 0 := fun z => by
        rw [if_pos z] at eo
        rcases y_open hN hv (c := 45) (d := 45) (Or.inl ⟨by decide, by decide⟩) (by decide) (by decide) (by decide) ep eo with ⟨o1, -, -⟩ | ⟨-, -, o3, -, -, o6, -, -, -, -, -, -⟩
        · exact (n10 o1).elim
        · have hq8 := krq_f_X12_opens N s q7 hq7
          unfold f_X12_opens f_X12_opens_29 at hq7
          by_cases cx : s.i 19 + 1 ≤ 20
          · rw [if_pos cx, if_pos (show (RS.setI s 19 (s.i 19 + 1)).i 15 = 0 from h15)] at hq7
            cases hq7
            exact (n10 c0).elim
          · rw [if_neg cx, e_fail, ob_some, if_pos (show (RS.setI s 19 (s.i 19 + 1)).i 15 = 0 from h15)] at hq7
            rw [if_neg (show ¬ (((RS.setI s 19 (s.i 19 + 1)).setI 15 6).setI 16 (s.i 11)).i 15 = 0 by show ¬ (6 : Int32) = 0; decide)] at hq7
            cases hq7
            exact absurd (show (6 : Int32) = 0 from z) (by decide)
      rw [if_neg f7] at eo
      rcases y_open hN hv (c := 45) (d := 45) (Or.inl ⟨by decide, by decide⟩) (by decide) (by decide) (by decide) ep eo with ⟨-, o2, o3⟩ | ⟨o1, -⟩
      · refine Or.inl ⟨?_, u_flt g2 o3⟩
        rw [if_neg o2] at e1
        rw [neg p.2 p29 e1]
        exact o2
      · exact absurd (show (0 : Int32) = 1 from o1) (by decide)
    · rw [if_neg c0] at hV eo
      obtain ⟨v, hv2, hV⟩ := hf_bind hV
      rw [ob_id] at hV
      rw [hv2, ob_some] at eo
      unfold f_X12_open_38 at eo
      by_cases cv : v.i 15 = 0
      · rw [if_pos cv] at eo
        rcases y_open hN hv (c := 45) (d := 45) (Or.inl ⟨by decide, by decide⟩) (by decide) (by decide) (by decide) ep eo with ⟨o1, -, -⟩ | ⟨-, o2, o3, o4, o5, o6, o7, o8, o9, o10, o11, o12⟩
        · exact (n10 o1).elim
        · rw [if_pos o3.1.1] at e1
          obtain ⟨x, ex, e1⟩ := hf_bind e1
          obtain ⟨y, ey, e1⟩ := hf_bind e1
          cases e1
          have tq : tpI v = t := by
            have r1 : v.i 63 = s.i 63 := congrArg (fun v : QJT => v.1.2.2.2.2.2.2.2.2.2.2.2.2.2.2.2.2.1) o4
            show (v.i 63).toInt = (t : Int)
            rw [r1]
            exact ht
          obtain ⟨hV', t99⟩ := r_then tq hV
          rw [hV'] at g2
          have t17 : (v.i 17).toInt = (s.i 17).toInt + 1 := by
            have : v.i 17 = s.i 17 + 1 := o6
            rw [this]
            exact t17_up (N := N) hv
          have o7' : (s.i 11).toInt + 1 ≤ (v.i 11).toInt := o7
          have o8' : v.i 20 = s.i 20 := o8
          have o12' : (v.i 19).toInt = (s.i 19).toInt + 1 := o12
          have pq : phI v = phI s + 3 := by
            unfold phI
            rw [o8', t17]
            omega
          rcases hE d p.2 (TH v t 1 18) U m (t + 1) x o3.th (TH.tp tq (by omega)) TH.fk TH.fs (show 3 ≤ phI v by omega) ex g2 with ⟨x1, x2⟩ | ⟨m2, u, g3, xo, xc⟩
          · refine Or.inl ⟨?_, x2⟩
            rw [fst_add ey]
            exact x1
          · obtain ⟨w1, w2, w3, w4, w5, w6, w7, w8, w9⟩ := xo
            have u64 : u.a 64 t = 18 := by
              rw [(w3 t (by omega)).1, TH.fk0 (Nat.le_refl t), ((FRB.of (t := t + 1) o4) t (by omega)).1]
              exact hk
            have u65 : u.a 65 t = 1 := by
              rw [(w3 t (by omega)).2.1]
              exact TH.st
            have tu : tpI u = t := by
              rw [w2]
              omega
            have w6' : (v.i 11).toInt + 1 ≤ (u.i 11).toInt := w6
            have w7' : phI v + 1 ≤ phI u := w7
            have w8' : (v.i 17).toInt + 1 ≤ (u.i 17).toInt := w8
            have w9' : u.i 19 = v.i 19 := w9
            obtain ⟨m3, V3, hV3, g4⟩ := rl_18 g3 tu w1.1.2.1 u64
            unfold f_X12_factor at hV3
            obtain ⟨-, hV3⟩ := hf_ite hV3
            rw [tp_nat tu, if_pos u65] at hV3
            obtain ⟨z, hz, hV3⟩ := hf_bind hV3
            cases hV3
            have e1' : (1 : Int32).toInt = 1 := by decide
            have ho := hv.2.2.1
            have ho2 := w1.2.2.1
            have u19 : (u.i 19).toInt = (s.i 19).toInt + 1 := by rw [w9', o12']
            have u191 : (u.i 19 - 1).toInt = (s.i 19).toInt := by rw [toInt_sub] <;> rw [e1'] <;> omega
            have ws : ENV d (CS.setI x.2 34 (x.2.i 34 - 1)) (RS.setI u 19 (u.i 19 - 1)) := w1.sg (by rw [ho2.1]) (by omega) (by omega) (by
              have := sg_room hv w1 ((CKX.of o5 o10 o11).tr w5) (by omega)
              unfold sgI at this
              rw [ho2.1] at this ⊢
              omega)
            obtain ⟨b1, b2, b3, b4, -, -⟩ := em_env ws (show 1 ≤ phI u by omega) hz
            obtain ⟨kq, y10, y11, -, -, -, -, y17, y19, -⟩ := qj2_eq b3
            have kd := kd_X0_add N _ 4 0 y ey
            obtain ⟨kp, -, -, -, e22, -, -, e43, -, -, -, e18⟩ := pj2_eq kd
            have tz : tpI z.2 = t := by
              have r1 : z.2.i 63 = u.i 63 := congrArg (fun v : QJT => v.1.2.2.2.2.2.2.2.2.2.2.2.2.2.2.2.2.1) kq
              show (z.2.i 63).toInt = (t : Int)
              rw [r1]
              exact tu
            have b4' : phI z.2 = phI u - 1 := b4
            have kqu : qj z.2 = qj u := kq
            have tbz : TBK u z.2 := b2
            have kpx : pj y.2 = pj x.2 := kp
            refine Or.inr ⟨m3, _, g4, ⟨pop_env (b1.kd kd), tp_sub tz t9, ((((FRB.of o4).tr TH.frb).tr (w3.mo (by omega))).tr (FRB.of kqu)).tr pop_frb, ((((TBK.of o4 (by rw [o8]; exact Int.le_refl _) (fun j _ => by rw [o9])).tr TH.tbk).tr w4).tr tbz).tr pop_tbk, ((CKX.of o5 o10 o11).tr w5).tr (CKX.of kpx e22 e18), ?_, ?_, ?_, ?_⟩, fun cr => ?_⟩
            · show (s.i 11).toInt + 1 ≤ (z.2.i 11).toInt
              have : z.2.i 11 = u.i 11 := y11
              rw [this]
              omega
            · show phI s + 1 ≤ phI z.2
              omega
            · show (s.i 17).toInt + 1 ≤ (z.2.i 17).toInt
              have : z.2.i 17 = u.i 17 := y17
              rw [this]
              omega
            · refine o19 ?_
              have : z.2.i 19 = u.i 19 - 1 := y19
              show (z.2.i 19).toInt = (s.i 19).toInt
              rw [this, u191]
            · obtain ⟨a1, a2, a3, a4, a5, a6⟩ := tok_cd hv o3 o5 (ke_X1_open N S 45 p ep) ((kre_f_X12_next N q7.2 v hv2).trans (kre_f_X12_opens N s q7 hq7)) o7
              have crp : CRB p.2 := cr.of a1 (by omega) (by omega)
              obtain ⟨f1, f2, f3, f4⟩ := xc crp
              have crx : CRB x.2 := crp.of f1 (by omega) (by omega)
              have x44 := w1.p44
              have x44' : (x.2.i 44).toInt = (u.i 11).toInt := by rw [x44.1]
              obtain ⟨d1', d2', ⟨d3', d3''⟩, d4', d5', d6'⟩ := cd_add ey (show 0 ≤ (x.2.i 20).toInt from crx.1.1) (show (x.2.i 20).toInt < 1200 by have := crx.1.2; omega)
              have d1 : CD1 1 0 x.2 y.2 := d1'
              have d2 : (y.2.i 20).toInt = (x.2.i 20).toInt + 1 := d2'
              have d3 : y.2.a 15 (pcC x.2) = 4 := d3'
              have d4 : y.2.a 17 = x.2.a 17 := d4'
              have p20 := w1.p20
              obtain ⟨m1', -, m3', m4', -, -⟩ := cd_emit hz (show 0 ≤ (u.i 20).toInt from p20.1) (show (u.i 20).toInt < 3000 by omega)
              have m1 : CD2 (u.i 20).toInt u z.2 := m1'
              have m3e : (z.2.i 20).toInt = (u.i 20).toInt + 1 := m3'
              have m4 : z.2.a 21 (pcR u) = 7 := m4'
              have sT : CD2 (s.i 20).toInt s (TH v t 1 18) := (a3 _).tr (CD2.qe rfl)
              have su : CD2 (s.i 20).toInt s u := sT.tr (f3.wk (by show _ ≤ (v.i 20).toInt; rw [a6]; exact Int.le_refl _))
              have kT : TBK s (TH v t 1 18) := (TBK.of o4 (by rw [o8]; exact Int.le_refl _) (fun j _ => by rw [o9])).tr TH.tbk
              have mz : CD2 (u.i 20).toInt u (RS.setI z.2 63 (z.2.i 63 - 1)) := m1.tr (CD2.qe rfl)
              refine ⟨((a1.tr f1).tr d1).wk (by omega) (by omega), ((a2 _ _).tr (f2.wk (Int.le_refl _) (by rw [a5]; exact Int.le_refl _))).tr (CT7.eq d4), su.tr (mz.wk su.1.1), ?_⟩
              obtain ⟨Ψ1, sat1, f4⟩ := f4
              refine ⟨Ψ1, sat1.wd (MNO.of a1 sT) (MNO.of d1 mz), ?_⟩
              intro FC SF nm X c h w0 W g0 ps fc fr ng hc hh ty hW hg zz
              have pS : pcC p.2 = pcC S := by unfold pcC; rw [a4]
              have pSi : ((pcC S : Nat) : Int) = (S.i 20).toInt := Int.toNat_of_nonneg cr.1.1
              have pxi : ((pcC x.2 : Nat) : Int) = (x.2.i 20).toInt := Int.toNat_of_nonneg crx.1.1
              have pui : ((pcR u : Nat) : Int) = (u.i 20).toInt := Int.toNat_of_nonneg p20.1
              have lpx := f1.1.1
              rw [a4] at lpx
              have py : pcC y.2 = pcC x.2 + 1 := by
                unfold pcC
                rw [d2]
                have := crx.1.1
                omega
              have pz : ∀ k : Int32, pcR (RS.setI z.2 63 k) = pcR u + 1 := fun k => by
                unfold pcR
                rw [show (RS.setI z.2 63 k).i 20 = z.2.i 20 from rfl, m3e]
                have := p20.1
                omega
              rw [py, pz] at zz
              have f15 := fc.2.1 (pcC x.2) (by omega) (by show _ < (y.2.i 20).toInt; omega)
              have lsu := su.1.1
              have u21 := fr.2.1 (pcR u) (by omega) (by show _ < (z.2.i 20).toInt; omega)
              have fr1 : (z.2.i 20).toInt ≤ (U.i 20).toInt := fr.1.2.1
              have z0 := gs_neg (g := 0) ⟨by have := crx.1.2; omega, by omega, fr.1.2.2⟩ hc (by rw [f15.1]; exact d3) (by rw [u21.1]; exact m4) zz
              have z1 := f4 FC SF nm X c h (w0 + 1) W g0 ps (fc.sub a1 d1 (CT7.eq d4)) (fr.sub sT mz (mz.c3 (Int.le_refl _))) (ng.mv hv.2.1.1 a1 sT kT.1.1.2.2.2.1 (fun j hj => (kT.1.2.1 j hj).2.1) (show (s.i 19).toInt ≤ (v.i 19).toInt by rw [o12']; omega)) hc (show ((2 * h + 0 + msr c : Nat) : Int) ≤ (v.i 11).toInt by omega) ty (by omega) hg z0
              rw [pS, show pcR (TH v t 1 18) = pcR s by unfold pcR; rw [show (TH v t 1 18).i 20 = v.i 20 from rfl, a6]] at z1
              rw [py, show w0 + (pcC x.2 + 1 - pcC S) = w0 + 1 + (pcC x.2 - pcC S) by omega]
              exact z1
      · rw [if_neg cv] at eo
        rcases y_open hN hv (c := 45) (d := 45) (Or.inl ⟨by decide, by decide⟩) (by decide) (by decide) (by decide) ep eo with ⟨-, o2, o3⟩ | ⟨o1, -⟩
        · refine Or.inl ⟨?_, u_flt g2 (krf_f_X12_then N v 1 18 V hV o3)⟩
          rw [if_neg o2] at e1
          rw [neg p.2 p29 e1]
          exact o2
        · exact absurd (show (0 : Int32) = 1 from o1) (by decide)
  rw [if_neg c45] at e
  have k45 : ¬ s.i 10 = 45 := fun q => c45 (i45.mpr q)
  rw [if_neg k45, if_neg k40] at hV
  by_cases csw : S.i 43 = 218
  · have ksw := isw.mp csw
    rw [if_pos csw] at e
    rw [if_pos ksw, n6 428 (by decide) ksw, ob_some, if_neg n10, if_neg k1, if_neg k2, if_neg k45, if_neg k40, if_pos hib] at hV
    obtain ⟨p, ep, e⟩ := hf_bind e
    cases e
    cases hV
    have g2 : f_X12_parse_10 N m (RS.setA s 64 t 19) = some U := g2
    have a64 : (RS.setA s 64 t 19).a 64 t = 19 := by
      show upd (s.a 64) t 19 t = 19
      exact if_pos rfl
    rcases hA d S (RS.setA s 64 t 19) U m t p (setA_env (Or.inr (by omega)) hv) ht a64 hs h3 csw ep g2 with z | ⟨m2, u, g3, xo, xc⟩
    · exact Or.inl z
    · obtain ⟨w1, w2, w3, w4, w5, w6, w7, w8, w9⟩ := xo
      have tb : TBK s (RS.setA s 64 t 19) := ⟨setA_tb0 (Or.inr (by omega)), Int.le_refl _, fun _ _ => rfl⟩
      exact Or.inr ⟨m2, u, g3, ⟨w1, w2, (setA_frb (Or.inr ⟨by omega, by omega, Nat.le_refl _⟩)).tr w3, tb.tr w4, w5, w6, w7, w8, w9⟩, fun cr => xc cr⟩
  · rw [if_neg csw] at e
    rw [if_neg (fun q => csw (isw.mpr q))] at hV
    obtain ⟨p, ep, e⟩ := hf_bind e
    cases e
    obtain ⟨q, hq, hV⟩ := hf_bind hV
    obtain ⟨q1, q2⟩ := y_can0 hq
    rw [if_pos q1] at hV
    cases hV
    exact Or.inl ⟨y_misp ep, u_flt g2 q2⟩
