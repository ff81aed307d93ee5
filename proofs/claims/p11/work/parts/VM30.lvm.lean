/-! both machines: a body is left; a whole leave -/
theorem thr_in {N H n0 : Nat} (hN : 10000000000 ≤ N) {D : Nat → List Nat} {T : Int32 × CS} {s0 S S1 : CS} {nm : Nat → Nat → Prop} {AL : Als} {nu : Nat → Nat} {h u f : Nat} {e : Ent} {c : List Ent} {P V : RS} {x y : Int32} {n1 : Int} {B : Int} (hct : HCT nm AL) (hk : e.k = 1) (d22 : frs (e :: c) ≤ 22) (acl : ACL nm H S P nu AL h u f e c n1) (t4 : S.i 73 = 4) (z4 : ∀ b : Nat, S.w = some b → S1 = cBg (cFt S f b) f ((cFt S f b).o f 1)) (cr : CRN N H D T s0 S1 x) (eh : e.h ≤ h) (hb : HBD S1 P AL e c u) (ty : HFN S1 P AL e c u) (hB : x.toInt + fps c + 1459 + u + 1 ≤ B) (hB4 : B ≤ 4000000) (hy : y.toInt = (c.length : Int)) (qq : ∃ Q : Int32 × RS, f_X12_isCaught N P y = some Q ∧ ((¬ Q.1 = 0 ∧ Q.2 = V) ∨ (Q.1 = 0 ∧ (Q.2.a 102 c.length = 0 → LVF N (f_X12_leave_0 N n0) Q.2 V y)))) : STP N H D T s0 nm AL h u V S1 P c n0 B := by
  have z1 := acl.1
  have y10 := z1.2.2.2.2.2.1
  have hy1 : REFS S := z1.1.1
  have hf : frs (e :: c) = frs c + 1 := frs_up (by omega)
  have x2 := cl_nat hy
  obtain ⟨b, w1, w2, w3, w4⟩ := y10.th t4
  have eS' := z4 b w1
  obtain ⟨u1, ⟨u2, u3, u4, u5⟩, ⟨u6, u7, u8, u9⟩, u10, ⟨u11, u12, u13⟩, u14⟩ := cbt_f (s := S) (f := f) (b := b) (t := (cFt S f b).o f 1)
  rw [← eS'] at u1 u2 u3 u4 u5 u6 u7 u8 u9 u10 u11 u12 u13
  rw [u14] at u3
  clear eS' z4
  have tlS : ∀ b' : Nat, TLV S P nu b' → TLV S1 P nu b' := (feq_top (P := P) (nu := nu) (m := 0) (c := c) hy1 acl.2.1.1 (by omega) u6 u7 u9 u10).2
  obtain ⟨nr, pr, hn, hp, hrw⟩ := hb
  have h66 : (S1.i 66).toInt = (pr : Int) := by
    rw [u3]
    have q := hp (S.o f 1) acl.2.1.2.1
    unfold cTg at *
    rw [u6] at q
    exact q
  have p4 : P.i 110 = 3 := y10.h4.mp t4
  obtain ⟨Q, q5, q6⟩ := qq
  have q7 : f_X12_isCaught_12 N N P y (P.a 30 e.y) = some Q := by
    unfold f_X12_isCaught at q5
    rw [x2, cl_nat acl.2.2.1.2.1] at q5
    exact (hf_ite (hf_ite q5).2).2
  have S72 : S1.i 72 = -1 := (u1 72 (by decide) (by decide) (by decide) (by decide)).trans z1.2.1
  have i67 : (S1.i 67).toInt = (frs c : Int) + 1 := by
    rw [u1 67 (by decide) (by decide) (by decide) (by decide), z1.2.2.2.1.2.1.1, hf]
    omega
  have r61 : S1.r 61 (frs c) = some f := by
    rw [u7]
    exact acl.2.1.1
  have tlr : TLR S1 P := z1.2.2.2.2.2.2.1.of (fun j hj => u1 j (by omega) (by omega) (by omega) (by omega)) (fun k _ => by rw [u6]) (RFX.rf P)
  obtain ⟨S', x', h1, h2, h3, h4⟩ := hr_loop hN (by omega) w2 nr N pr (P.a 30 e.y) S1 x Q hrw cr S72 u5 h66 i67 r61 u13 (tlS b w3) tlr (by omega) q7
  rcases h4 with ⟨h5, h6, S2, h7, h8⟩ | ⟨h5, pb, qb, zz, ll, w, j, ⟨h6, h6'⟩, ⟨h7, h8⟩, h9, S2, h10, h11, h12⟩
  · -- no catch is for it
    obtain ⟨v1, ⟨v2, v3, v4⟩, v5, v6, v7, v8, v9, v10⟩ := cag_f (s := S2) (b := b)
    rw [← h8] at v1 v2 v3 v4 v5 v6 v7 v8 v9 v10
    obtain ⟨E1, E2, E3, E4, E5, E6, E7⟩ := h7
    obtain ⟨bl, tp, tv⟩ := acl_blw (S1 := S') hk d22 acl (by rw [v6, E2, u6]) (by rw [v7, E3, u7]) (by rw [v10, E7, u9]) (fun g' hg => by rw [v8, E5, v9, E6]; exact u10 g' hg) (fun j j1 j2 j3 j4 j5 j6 => by rw [v1 j j4 j5 j6, E1 j j2, u1 j j1 j2 j3 j4]) (by rw [v1 68 (by decide) (by decide) (by decide), E1 68 (by decide), u4]) (fun q => absurd v2 q) (by rw [v8, E5, u11]) (fun j q => by rw [v8, E5, u12 j q])
    have lf : LVF N (f_X12_leave_0 N n0) P V y := by
      rcases q6 with ⟨q6, -⟩ | ⟨-, q6⟩
      · exact absurd h5 q6
      · rw [h6] at q6
        exact q6 acl.2.2.1.2.2.2
    have s15 : S'.a = S1.a := by rw [v6, E2]
    have wy : WYS S' P nu AL (e :: c) h u (S'.i 73) (S'.i 74) (S'.i 75) S'.w (P.i 110) (P.i 111) (P.i 112) (P.i 113) (P.i 114) := Or.inr (Or.inr (Or.inr ⟨v2, p4, v4, b, v5, w2, tv b w3⟩))
    exact STP.bk (by rw [s15]) (by rw [s15]) (by rw [s15]) (RFX.rf P) rfl (fop hN (Or.inl hk) h1 tp bl eh wy (fun q => by rw [v2] at q; rcases q with q | q <;> exact absurd q (by decide)) (ty.cg (by rw [s15]) (RFX.rf P)) (by omega) hB4 hy lf)
  · -- a catch begins
    obtain ⟨bl, tp, tv⟩ := acl_blw (S1 := cAg S1 b) hk d22 acl u6 u7 u9 u10 (fun j j1 j2 j3 j4 j5 j6 => by rw [cag_f.1 j j4 j5 j6, u1 j j1 j2 j3 j4]) (by rw [cag_f.1 68 (by decide) (by decide) (by decide), u4]) (fun q => absurd cag_f.2.1.1 q) u11 u12
    have th : (P.i 85).toInt + tps c + 1 ≤ 2 * (P.i 80).toInt := by
      have q1' := z1.2.2.2.1.2.2.2.1.2
      have q2' := z1.2.2.2.2.1.1
      have q3' : tps (e :: c) = tps c + 2 := by
        show tps c + (if e.k = 1 then 2 else if e.k = 2 then 1 else 0) = tps c + 2
        rw [if_pos hk]
      omega
    obtain ⟨-, hck, -⟩ := hct _ _ _ _ _ _ h6
    rw [x2] at h9
    obtain ⟨sy, i80⟩ := cat_in hck bl tp ⟨fun j j1 j2 j3 => (cag_f.1 j j1 j2 j3).symm, rfl, rfl, rfl, rfl, rfl⟩ u13 (tv b w3) (by rw [u2]; exact acl.2.1.2.2) u5 eh w2 th h10 h11 h12 h9 h8
    rcases q6 with ⟨-, q6⟩ | ⟨q6, -⟩
    · rw [q6] at sy i80
      refine Or.inl ⟨i80, Or.inl ⟨S', x', nu, e.h, pb + 1, qb, w, _, h1, sy, h6, ?_⟩⟩
      show x'.toInt + ((fps c + 1154 : Nat) : Int) + w ≤ B
      omega
    · exact absurd q6 h5
theorem st_1 {N H n0 : Nat} (hN : 10000000000 ≤ N) {D : Nat → List Nat} {T : Int32 × CS} {s0 s : CS} {nm : Nat → Nat → Prop} {AL : Als} {mu : Nat → Nat} {h u : Nat} {e : Ent} {c : List Ent} {r V : RS} {x : Int32} {n : Int} {B : Int} (hct : HCT nm AL) (hk : e.k = 1) (d22 : frs (e :: c) ≤ 22) (ck : CTK nm (e :: c)) (cr : CRN N H D T s0 s x) (l : LVR nm s r mu AL h (e :: c) n u) (eh : e.h ≤ h) (hb : HBD s r AL e c u) (ty : HFN s r AL e c u) (ng : LVG r) (hB : x.toInt + fps (e :: c) + u + 1 ≤ B) (hB4 : B ≤ 4000000) (g : f_X12_leave_0 N (n0 + 1) r = some V) : STP N H D T s0 nm AL h u V s r c n0 B := by
  obtain ⟨l1, ⟨l2, l3, l4⟩, ⟨dy0, ⟨o1, o2, o3, o4, o5, o6⟩⟩, ⟨l7, l8⟩, l9, l10⟩ := id l
  obtain ⟨⟨d0, d1⟩, ⟨d2, d2'⟩, d3, ⟨d4, d4'⟩, d6, d7⟩ := id dy0
  have g1 := lv_ng ng g
  obtain ⟨x1, x2⟩ := idx1 (r := r) (k := c.length) d2'
  have hf : frs (e :: c) = frs c + 1 := frs_up (by omega)
  have fp : fps (e :: c) = fps c + 1460 := by
    show fps c + (if e.k = 0 then 2 else if e.k = 1 then 1460 else if e.k = 2 then 1154 else if e.k = 3 then 1152 else 0) = fps c + 1460
    rw [if_neg (by omega), if_pos hk]
  have nd := nd_ofw d2' l9.hw.1 l9.hw.2.1 ng
  have lt := ltg_of (by omega) l9 nd d2
  have x0 := cr.2.2.1.1
  have hr : REFS s := cr.1.1
  rcases d1 with ⟨k0, -⟩ | ⟨k1, a1, ⟨a2, a3⟩, ⟨f, a4, a5, a6, a7, a8⟩, a9⟩ | ⟨k0, -⟩ | ⟨k0, -⟩ | ⟨k0, -⟩ | ⟨k0, -⟩
  · omega
  · have h67 : (s.i 67).toInt = (frs c : Int) + 1 := by
      rw [d2, hf]
      omega
    obtain ⟨P, p1, p2⟩ := lv_r40 x2 a1 a3 g1
    obtain ⟨S1, e1, e2, e3⟩ := cr.lv hN l1 l9.hw.2.2.1 (by omega)
    have e4 := lo_b h67 (by omega) a4.1 lt a4.2.1 e1
    have fk : oK s f 1 := hr.2.2.2.1 (frs c) f (by omega) a4.1
    have e1' : (1 : Int32).toInt = 1 := by decide
    have hx : (s.i 68 - 1).toInt = (r.i 95).toInt - 1 := by
      rw [o1, toInt_sub] <;> rw [e1'] <;> omega
    have cli : CLI nm H s r mu AL h (e :: c) n u := ⟨⟨hr, cr.1.2.1⟩, l1, ⟨l2, l3, l4⟩, dy0, ⟨l7, l8⟩, Or.inr l9, l10, ⟨o2, by omega⟩, o5⟩
    have e5 : f_X3_leaveBody_7 N N s f (s.i 68 - 1) = some ((), S1) := e4
    have p3 : f_X12_closeAll_0 N N r (r.i 99 - 1) = some P := p1
    obtain ⟨q1, q2⟩ := o6.1 hk
    obtain ⟨S, nu, n1, z1, z2, z3, z4, z5, z6, ⟨z7, z8⟩, z9, z80⟩ := cl_all (f := f) (by omega) ck d22 N N s r mu n (s.i 68 - 1) ((), S1) P cli hx fk (by rw [x2]; exact a6) (by rw [a6]; exact a7) (by rw [a6]; exact q1) e5 p3
    have rfx : RFX r P := kx_f_X12_closeAll N r _ P p1
    have c15 : S1.a 15 = s.a 15 := e2.2.1 15 (by decide)
    have c16 : S1.a 16 = s.a 16 := e2.2.1 16 (by decide)
    have c17 : S1.a 17 = s.a 17 := e2.2.1 17 (by decide)
    have acl : ACL nm H S P nu AL h u f e c n1 := by
      obtain ⟨-, -, -, ⟨⟨dd0, dd1⟩, -⟩, -⟩ := id z1
      rcases dd1 with ⟨k0, -⟩ | ⟨-, b1, ⟨b2, b3⟩, ⟨f', b4, b5, b6, b7, b8⟩, b9⟩ | ⟨k0, -⟩ | ⟨k0, -⟩ | ⟨k0, -⟩ | ⟨k0, -⟩
      · omega
      · have ef : f' = f := by
          have y1 := b4.1
          rw [z6, a4.1] at y1
          exact (Option.some.inj y1).symm
        rw [ef] at b4 b5 b6
        have op : ops (e :: c) = ops c + e.z := by
          show ops c + (if e.k = 1 then e.z else 0) = ops c + e.z
          rw [if_pos hk]
        have e95 : P.i 95 = P.a 103 c.length := by
          rw [z2, a6, z9]
        refine ⟨z1, ⟨b4.1, b5, b4.2.2⟩, ⟨b1, b2, dd0, b3⟩, b9, ⟨by rw [z2, z8], by rw [e95]; exact b8, by omega, ?_⟩⟩
        rw [e95, z9]
        exact q2.of (fun k _ => by rw [z9])
      · omega
      · omega
      · omega
      · omega
    have y10 := z1.2.2.2.2.2.1
    have hy1 : REFS S := z1.1.1
    by_cases t4 : S.i 73 = 4
    · -- one is thrown
      rcases p2 with ⟨p4, p5⟩ | ⟨p4, -⟩
      · exact STP.bk c15 c16 c17 rfx z80 (thr_in hN hct hk d22 acl t4 (fun b w1 => z4 b t4 w1) e3 eh (hb.cg c15 c16 c17 rfx) (ty.cg c17 rfx) (by rw [ad1 x0 (by omega)]; omega) hB4 x1 p5)
      · exact absurd (y10.h4.mp t4) p4
    · -- none is thrown
      have eS : S1 = cFb S f := z3 t4
      obtain ⟨u1, u2, ⟨u3, u4, u5, u6, u7⟩, u8, u9, u10⟩ := cfb_f (s := S) (f := f)
      rw [← eS] at u1 u2 u3 u4 u5 u6 u7 u8 u9 u10
      clear eS
      rcases z5 with z5 | ⟨y1, y2, y3, y4, y5⟩
      · exact absurd z5 t4
      obtain ⟨bl, tp, tv⟩ := acl_blw (S1 := S1) hk d22 acl u3 u4 u7 (fun g' hg => ⟨u8 g' hg, by rw [u6]⟩) (fun j _ _ j3 _ _ _ => u1 j j3) u2 (fun _ => ⟨u1 65 (by decide), t4⟩) u9 u10
      have wy : WYS S1 P nu AL (e :: c) h u (S1.i 73) (S1.i 74) (S1.i 75) S1.w (P.i 110) (P.i 111) (P.i 112) (P.i 113) (P.i 114) := by
        rw [u1 73 (by decide), u1 74 (by decide), u1 75 (by decide), u5]
        rcases y10 with ⟨w1, w2⟩ | w
        · rw [y1] at w1
          rw [y4, l9.hw.1 w1] at w2
          exact absurd w2 (by decide)
        · exact w.of (by rw [u3]) rfl rfl rfl (fun b _ t => ⟨tv b t, rfl⟩)
      have nh : ¬ P.i 110 = 3 := fun q => t4 (y10.h4.mpr q)
      rcases p2 with ⟨p4, -⟩ | ⟨-, p4⟩
      · exact absurd p4 nh
      · exact STP.bk c15 c16 c17 rfx z80 (fop hN (Or.inl hk) e3 tp bl eh wy (fun q => by rw [u1 73 (by decide), y1] at q; rw [y5]; exact nd q) (ty.cg c17 rfx) (by rw [ad1 x0 (by omega)]; omega) hB4 x1 (p4 acl.2.2.1.2.2.2))
  · omega
  · omega
  · omega
  · omega
/-- a whole leave -/
theorem lv_main {N H : Nat} (hN : 10000000000 ≤ N) {D : Nat → List Nat} {T : Int32 × CS} {s0 : CS} {nm : Nat → Nat → Prop} {AL : Als} {h u : Nat} {V : RS} {B : Int} (hct : HCT nm AL) (hB4 : B ≤ 4000000) : ∀ (c : List Ent) (n0 : Nat) (s : CS) (r : RS) (mu : Nat → Nat) (n : Int) (x : Int32), CTK nm c → frs c ≤ 22 → (∀ e ∈ c, e.h ≤ h) → TYC s r AL u c → CRN N H D T s0 s x → LVR nm s r mu AL h c n u → x.toInt + fps c + u + 1 ≤ B → f_X12_leave_0 N n0 r = some V → LVO N H D T s0 nm AL V (r.i 80) B := by
  intro c
  induction c with
  | nil =>
    intro n0 s r mu n x ck d22 eh ty cr l hB g
    have l9 := l.2.2.2.2.1
    rcases l9 with ⟨a1, a2, c1, c0, b1, ⟨b2, b3⟩, b4, b5⟩ | ⟨a1, a2, a3, c1, a, c0, b1, b2⟩ | ⟨a1, -⟩ | ⟨a1, -⟩
    · have e1 : c1 = [] ∧ c0 = [] := List.append_eq_nil_iff.mp b1.symm
      rw [e1.1] at b5
      rw [e1.2] at b2 b3 b5
      obtain ⟨p, q, w, ⟨z1, z2⟩, z3, z4, -⟩ := b5 (fun e he => by cases he)
      exact arr_1 hN cr (Nat.zero_le _) l a1 a2 b2 b3 z1 z2 z3 z4 hB hB4 g
    · cases c1 with
      | nil => cases b1
      | cons z1 z2 => cases b1
    · exact arr_E hN cr l (Or.inl a1) (by omega) g
    · exact arr_E hN cr l (Or.inr a1) (by omega) g
  | cons e c ih =>
    intro n0 s r mu n x ck d22 eh ty cr l hB g
    have l9 := l.2.2.2.2.1
    obtain ⟨d1, ⟨d2, d2'⟩, -⟩ := l.2.2.1.1
    have el : ((e :: c).length : Int) = (c.length : Int) + 1 := by
      show ((c.length + 1 : Nat) : Int) = _
      omega
    have fl := frs_le (e := e) (c := c)
    cases n0 with
    | zero => cases g
    | succ n0 =>
      -- at the goal, or not
      have step : LVG r → LVO N H D T s0 nm AL V (r.i 80) B := fun ng => by
        have st : STP N H D T s0 nm AL h u V s r c n0 B := by
          rcases d1.2 with ⟨k0, -⟩ | ⟨k0, -⟩ | ⟨k0, -⟩ | ⟨k0, -⟩ | ⟨k0, -⟩ | ⟨k0, -⟩
          · exact st_0 hN k0 d22 cr l ng hB hB4 g
          · exact st_1 hN hct k0 d22 ck cr l (eh e List.mem_cons_self) (ty.1 k0) (ty.2.1 (Or.inl k0)) ng hB hB4 g
          · exact st_2 hN k0 d22 cr l (eh e List.mem_cons_self) (ty.2.1 (Or.inr k0)) ng hB hB4 g
          · exact st_3 hN k0 d22 cr l ng hB hB4 g
          · exact st_45 (Or.inl k0) cr l ng hB g
          · exact st_45 (Or.inr k0) cr l ng hB g
        rcases st with st | ⟨S, R, nu, n1, x', q1, q2, q3, q4, ⟨q5, q6, q7⟩, q8, q9⟩
        · exact st
        · have := ih n0 S R nu n1 x' ck.2.2 (by omega) (fun a ha => eh a (List.mem_cons_of_mem _ ha)) (TYC.cg q5 q6 q7 q8 ty.2.2) q1 q2 q4 q3
          rw [q9] at this
          exact this
      have z0 : (0 : Int32).toInt = 0 := by decide
      rcases id l9 with ⟨a1, a2, c1, c0, b1, ⟨b2, b3⟩, b4, b5⟩ | ⟨a1, a2, a3, c1, a, c0, b1, ⟨b2, b2', b2''⟩, ⟨b3, b4⟩, b5, b6⟩ | ⟨a1, a2, -⟩ | ⟨a1, a2, -⟩
      · cases c1 with
        | nil =>
          have e0 : c0 = e :: c := b1.symm
          rw [e0] at b2 b3 b5
          obtain ⟨p, q, w, ⟨z1, z2⟩, z3, z4, -⟩ := b5 (fun e he => by cases he)
          exact arr_1 hN cr d22 l a1 a2 b2 b3 z1 z2 z3 z4 hB hB4 g
        | cons e' c1 =>
          have e2 : c = c1 ++ c0 := (List.cons.inj b1).2
          have l2 : c.length = c1.length + c0.length := by rw [e2, List.length_append]
          exact step (Or.inl ⟨Or.inl a2, fun q => by have := le_int q; omega⟩)
      · cases c1 with
        | nil =>
          have e1 : e = a ∧ c = c0 := List.cons.inj b1
          rw [← e1.1] at b2 b2' b6
          rw [← e1.2] at b3 b4 b6
          obtain ⟨p, q, w, ⟨z1, z2⟩, z3, z4, -⟩ := b6 (fun e he => by cases he)
          exact arr_2 hN cr (by omega) ck.2.2 l a1 a2 a3 b2 b2' b2'' b3 b4 z1 z2 z3 z4 hB hB4 g
        | cons e' c1 =>
          have e2 : c = c1 ++ a :: c0 := (List.cons.inj b1).2
          have l2 : c.length = c1.length + (c0.length + 1) := by rw [e2, List.length_append, List.length_cons]
          exact step (Or.inl ⟨Or.inr a2, fun q => by have := le_int q; omega⟩)
      · exact step (Or.inr ⟨by rw [a2]; decide, by rw [a2]; decide, fun q => by have := le_int q; omega⟩)
      · exact step (Or.inr ⟨by rw [a2]; decide, by rw [a2]; decide, fun q => by have := le_int q; omega⟩)
