/-! both machines: leaving a lock, a catch; a yield arrives -/
theorem st_0 {N H n0 : Nat} (hN : 10000000000 ≤ N) {D : Nat → List Nat} {T : Int32 × CS} {s0 s : CS} {nm : Nat → Nat → Prop} {AL : Als} {mu : Nat → Nat} {h u : Nat} {e : Ent} {c : List Ent} {r V : RS} {x : Int32} {n : Int} {B : Int} (hk : e.k = 0) (d22 : frs (e :: c) ≤ 22) (cr : CRN N H D T s0 s x) (l : LVR nm s r mu AL h (e :: c) n u) (ng : LVG r) (hB : x.toInt + fps (e :: c) + u + 1 ≤ B) (hB4 : B ≤ 4000000) (g : f_X12_leave_0 N (n0 + 1) r = some V) : STP N H D T s0 nm AL h u V s r c n0 B := by
  obtain ⟨l1, ⟨l2, l3, l4⟩, ⟨⟨⟨d0, d1⟩, ⟨d2, d2'⟩, d3, d4, d6, d7⟩, op⟩, -, l9, -⟩ := id l
  have g1 := lv_ng ng g
  obtain ⟨x1, x2⟩ := idx1 (r := r) (k := c.length) d2'
  have hf : frs (e :: c) = frs c + 1 := frs_up (by omega)
  replace op := op.tl (by omega)
  have fp : fps (e :: c) = fps c + 2 := by
    show fps c + (if e.k = 0 then 2 else if e.k = 1 then 1460 else if e.k = 2 then 1154 else if e.k = 3 then 1152 else 0) = fps c + 2
    rw [if_pos hk]
  have nd := nd_ofw d2' l9.hw.1 l9.hw.2.1 ng
  have lt := ltg_of (by omega) l9 nd d2
  have hfc : e.k = 1 ∨ e.k = 2 → 0 ≤ (r.a 31 e.y).toInt → FCP r AL e.y := fun q => by omega
  rcases d1 with ⟨k0, a1, ⟨f, a2, a3⟩, a4⟩ | ⟨k0, -⟩ | ⟨k0, -⟩ | ⟨k0, -⟩ | ⟨k0, -⟩ | ⟨k0, -⟩
  · obtain ⟨Q, q1, q2, q3⟩ := lv_r1 x2 a1 g1
    obtain ⟨S, e1, e2, e3⟩ := cr.lv hN l1 l9.hw.2.2.1 (by omega)
    obtain ⟨P, p1, eS⟩ := lo_0 (by rw [d2, hf]; omega) (by omega) a2.1 lt a2.2.1 e1
    have x0 := cr.2.2.1.1
    rw [a3] at p1
    have m0 : MTR (CS.setI s 71 (s.i 71 - 1)) r := l3.of (ci_ne _ _ _ (by decide)) (ci_ne _ _ _ (by decide)) rfl rfl rfl rfl rfl
    obtain ⟨n1, n2, n3, ⟨n4, n5, n6, n7, n8⟩, n9, n10⟩ := m0.note p1 q1
    obtain ⟨R, hR⟩ : ∃ R, R = RS.setI (RS.setA Q 91 (Q.a 101 c.length).toNatClampNeg (Q.a 91 (Q.a 101 c.length).toNatClampNeg - 1)) 99 (Q.i 99 - 1) := ⟨_, rfl⟩
    rw [← hR] at q3
    have Ri : ∀ j : Nat, j ≠ 81 → j ≠ 99 → R.i j = r.i j := fun j a b => by
      rw [hR, ri_ne b]
      exact n9 j a
    have R81 : R.i 81 = Q.i 81 := by
      rw [hR, ri_ne (by decide)]
      rfl
    have R99 : (R.i 99).toInt = (c.length : Int) := by
      rw [hR, ri_at, n9 99 (by decide)]
      exact x1
    have Ra : ∀ k : Nat, k ≠ 91 → R.a k = Q.a k := fun k a => by
      rw [hR]
      exact setA_nk (s := Q) a
    have R91 : ∀ j : Nat, j ≠ (Q.a 101 c.length).toNatClampNeg → R.a 91 j = r.a 91 j := fun j a => by
      rw [hR]
      show (RS.setA Q 91 (Q.a 101 c.length).toNatClampNeg (Q.a 91 (Q.a 101 c.length).toNatClampNeg - 1)).a 91 j = r.a 91 j
      rw [setA_ne a, n10 91 (by decide) (by decide)]
    have R91' : R.a 91 (Q.a 101 c.length).toNatClampNeg = r.a 91 (Q.a 101 c.length).toNatClampNeg + -1 := by
      rw [hR]
      show (RS.setA Q 91 (Q.a 101 c.length).toNatClampNeg (Q.a 91 (Q.a 101 c.length).toNatClampNeg - 1)).a 91 (Q.a 101 c.length).toNatClampNeg = _
      rw [setA_at, n10 91 (by decide) (by decide), Int32.sub_eq_add_neg]
    clear hR
    have m8 : (Q.a 101 c.length).toNatClampNeg < 8 := by
      have := q2.1
      have := q2.2
      show (Q.a 101 c.length).toInt.toNat < 8
      omega
    have hs := (hS_dec R91' R91 8).2 m8
    have sm : SAM s S r R := by
      rw [eS]
      refine ⟨fun j a b d => ?_, fun k a => ?_, ⟨n4, n5, n6, n7, n8⟩, fun j a _ b => Ri j a b, fun k a b d => (Ra k d).trans (n10 k a b)⟩
      · rw [ci_ne _ _ _ a, n2 j b, ci_ne _ _ _ d]
      · exact n3 k a
    have mt : MTR S R := n1.of (by rw [eS, ci_ne _ _ _ (by decide)]) (by rw [eS, ci_ne _ _ _ (by decide)]) (by rw [eS]; rfl) ((Ri 80 (by decide) (by decide)).trans (n9 80 (by decide)).symm) R81 (Ra 82 (by decide)) (Ra 83 (by decide))
    refine Or.inr ⟨S, R, mu, n, x + 1, e3, pop_sam l sm mt (by rw [Ri 97 (by decide) (by decide)]; exact a4) ?_ R99 op ?_ nd hfc, q3, by rw [ad1 x0 (by omega)]; omega, ⟨sm.2.1 15 (by decide), sm.2.1 16 (by decide), sm.2.1 17 (by decide)⟩, sm.rfx, Ri 80 (by decide) (by decide)⟩
    · rw [eS, ci_at, n2 67 (by decide), ci_ne _ _ _ (by decide)]
      exact sub_n1 (by rw [d2, hf]; omega)
    · rw [eS, ci_ne _ _ _ (by decide), n2 71 (by decide), ci_at, hs, d3, Int32.sub_eq_add_neg]
  · omega
  · omega
  · omega
  · omega
  · omega
/-- a catch is left: its finally, or none -/
theorem st_2 {N H n0 : Nat} (hN : 10000000000 ≤ N) {D : Nat → List Nat} {T : Int32 × CS} {s0 s : CS} {nm : Nat → Nat → Prop} {AL : Als} {mu : Nat → Nat} {h u : Nat} {e : Ent} {c : List Ent} {r V : RS} {x : Int32} {n : Int} {B : Int} (hk : e.k = 2) (d22 : frs (e :: c) ≤ 22) (cr : CRN N H D T s0 s x) (l : LVR nm s r mu AL h (e :: c) n u) (eh : e.h ≤ h) (ty : HFN s r AL e c u) (ng : LVG r) (hB : x.toInt + fps (e :: c) + u + 1 ≤ B) (hB4 : B ≤ 4000000) (g : f_X12_leave_0 N (n0 + 1) r = some V) : STP N H D T s0 nm AL h u V s r c n0 B := by
  obtain ⟨l1, ⟨l2, l3, l4⟩, ⟨⟨⟨d0, d1⟩, ⟨d2, d2'⟩, d3, ⟨d4, d4'⟩, d6, d7⟩, op⟩, ⟨l7, l8⟩, l9, l10⟩ := id l
  have g1 := lv_ng ng g
  obtain ⟨x1, x2⟩ := idx1 (r := r) (k := c.length) d2'
  have hf : frs (e :: c) = frs c + 1 := frs_up (by omega)
  have tp : tps (e :: c) = tps c + 1 := by
    show tps c + (if e.k = 1 then 2 else if e.k = 2 then 1 else 0) = tps c + 1
    rw [if_neg (by omega), if_pos hk]
  replace op := op.tl (by omega)
  have fp : fps (e :: c) = fps c + 1154 := by
    show fps c + (if e.k = 0 then 2 else if e.k = 1 then 1460 else if e.k = 2 then 1154 else if e.k = 3 then 1152 else 0) = fps c + 1154
    rw [if_neg (by omega), if_neg (by omega), if_pos hk]
  have nd := nd_ofw d2' l9.hw.1 l9.hw.2.1 ng
  have lt := ltg_of (by omega) l9 nd d2
  have x0 := cr.2.2.1.1
  rcases d1 with ⟨k0, -⟩ | ⟨k0, -⟩ | ⟨k2, a1, ⟨a2, a3⟩, ⟨f, b, a4, a5, a6, a7, a8, a9⟩, a10⟩ | ⟨k0, -⟩ | ⟨k0, -⟩ | ⟨k0, -⟩
  · omega
  · omega
  · obtain ⟨P, p1, p2⟩ := lv_r41 x2 a1 a3 g1
    have h67 : (s.i 67).toInt = (frs c : Int) + 1 := by
      rw [d2, hf]
      omega
    rcases ty with ⟨t1, t2⟩ | ⟨p, q, w, t1, t2, t3, t4, t5⟩
    · rcases fi_r x1 a2 p1 with ⟨z, eP⟩ | ⟨z, -⟩
      · rcases p2 with ⟨-, p2⟩ | ⟨z2, -⟩
        · obtain ⟨S, e1, e2, e3⟩ := cr.lv hN l1 l9.hw.2.2.1 (by omega)
          have eS := lo_p h67 (by omega) a4.1 lt (Or.inr ⟨a4.2.1, t2 _ a5⟩) e1
          rw [eP] at p2
          exact st_pp (Or.inl hk) e3 l a10 nd (fun _ z' => by omega) eS (by rw [ad1 x0 (by omega)]; omega) p2
        · rw [eP] at z2
          exact absurd rfl z2
      · omega
    · have top : TOPW s r e c f := ⟨⟨h67, by omega⟩, ⟨a4.1, a4.2.1, a5, a4.2.2⟩, by rw [d2']; show ((c.length + 1 : Nat) : Int) = _; omega, a1, a2, d0⟩
      have bl : BLW nm s r mu AL h c 0 := ⟨l1, ⟨l2, l3, l4⟩, a10, op, d3, ⟨d4, by omega⟩, d6, d7, l10⟩
      obtain ⟨nz, S, e3, sy, i80⟩ := fin_in hN cr (by omega) l9.hw.2.2.1 lt top bl eh t1 (t2 _ a5) t4 (Or.inr (fun fc => (l9.tl nd (fun _ _ => fc)).2 (Or.inr hk))) x1 p1
      rcases p2 with ⟨z, -⟩ | ⟨-, eV⟩
      · exact absurd z nz
      · rw [eV] at sy i80
        refine Or.inl ⟨i80, Or.inl ⟨S, x + 1, mu, e.h, p, q, w, _, e3, sy, t4, ?_⟩⟩
        rw [ad1 x0 (by omega)]
        show x.toInt + 1 + ((fps c + 1152 : Nat) : Int) + w ≤ B
        omega
  · omega
  · omega
  · omega
/-- a yield arrives -/
theorem arr_2 {N H n0 : Nat} (hN : 10000000000 ≤ N) {D : Nat → List Nat} {T : Int32 × CS} {s0 s : CS} {nm : Nat → Nat → Prop} {AL : Als} {mu : Nat → Nat} {h u : Nat} {a : Ent} {c : List Ent} {r V : RS} {x : Int32} {n : Int} {B : Int} (cr : CRN N H D T s0 s x) (d22 : frs c ≤ 22) (ck : CTK nm c) (l : LVR nm s r mu AL h (a :: c) n u) (e73 : s.i 73 = 2) (e110 : r.i 110 = 4) (e74 : s.i 74 = r.i 113) (ak : a.k = 5) (ah : a.h = h) (h6 : h < 600) {p q w : Nat} (t32 : (s.i 75 - s.i 75 / 32 * 32).toInt = (frs c : Int)) (d112 : (r.i 112).toInt = (c.length : Int) + 1) (ep : (cTg s (s.i 75 / 32)).toInt = (p : Int)) (eq : (r.a 23 a.x).toInt = (q : Int)) (al : AL p q (h + 1) w 0 c) (hw : w ≤ u) (hB : x.toInt + fps (a :: c) + u + 1 ≤ B) (hB4 : B ≤ 4000000) (g : f_X12_leave_0 N n0 r = some V) : LVO N H D T s0 nm AL V (r.i 80) B := by
  obtain ⟨l1, ⟨l2, l3, l4⟩, ⟨⟨⟨d0, d1⟩, ⟨d2, d2'⟩, d3, ⟨d4, d4'⟩, d6, d7⟩, op⟩, ⟨l7, l8⟩, l9, l10⟩ := id l
  have nz : n = 0 := l8 (by rw [e73]; decide)
  obtain ⟨x1, x2⟩ := idx1 (r := r) (k := c.length) d2'
  have hf : frs (a :: c) = frs c := frs_eq (by omega)
  have fl := fps_le (e := a) (c := c)
  have tl := tps_le (e := a) (c := c)
  replace op := op.tl (by omega)
  rw [hf] at d2
  have x0 := cr.2.2.1.1
  rcases d1 with ⟨k0, -⟩ | ⟨k0, -⟩ | ⟨k0, -⟩ | ⟨k0, -⟩ | ⟨k0, -⟩ | ⟨k5, a1, a2, a3⟩
  · omega
  · omega
  · omega
  · omega
  · omega
  · obtain ⟨S, e1, -, e3⟩ := cl_arr hN cr (by omega) l1 (by rw [e73]; decide) d2 d22 a3 (Or.inr (fun z => by
      unfold LTG at z
      have := lt_int z
      omega))
    cases n0 with
    | zero => cases g
    | succ n0 =>
      have el : ((a :: c).length : Int) = (c.length : Int) + 1 := by
        show ((c.length + 1 : Nat) : Int) = _
        omega
      obtain ⟨W, eW, eV⟩ := lv_g4 e110 (by rw [Int32.le_iff_toInt_le]; omega) g
      unfold f_X3_arrive f_X3_arrive_48 at e1
      rw [if_neg (by rw [e73]; decide), if_neg (by rw [e73]; decide), if_pos e73, e_cPu, ob_some] at e1
      have eS : S = CS.setI (CS.setI (cPu s (s.i 74)) 66 (gAt ((cPu s (s.i 74)).a 17) 1024 ((cPu s (s.i 74)).i 75 / 32))) 73 0 := (congrArg Prod.snd (Option.some.inj e1)).symm
      -- the record of the arms goes
      obtain ⟨R, hR⟩ : ∃ R, R = RS.setI (RS.setI r 99 (r.i 99 - 1)) 93 (r.a 104 (r.i 99 - 1).toNatClampNeg) := ⟨_, rfl⟩
      rw [← hR] at eW
      have Ra : R.a = r.a := by
        rw [hR]
        rfl
      have Ri : ∀ j : Nat, j ≠ 93 → j ≠ 99 → R.i j = r.i j := fun j q1 q2 => by rw [hR, ri_ne q1, ri_ne q2]
      have R93 : R.i 93 = r.i 93 := by
        rw [hR, ri_at, x2]
        exact Int32.toInt_inj.mp (by rw [d0, ah, (l2.2 (by rw [e73]; decide)).2])
      have R99 : (R.i 99).toInt = (c.length : Int) := by
        rw [hR, ri_ne (by decide), ri_at]
        exact x1
      clear hR
      have tlv : ∀ b : Nat, TLV s r mu b → TLV s R mu b := fun b t => by
        unfold TLV THG at *
        rw [Ra, Ri 85 (by decide) (by decide), Ri 3 (by decide) (by decide)]
        exact t
      have feq : FEQ s s r R mu mu c (r.i 97).toInt := ⟨fun i f _ hf => ⟨hf, rfl, rfl⟩, fun b _ t => ⟨tlv b t, rfl, by rw [Ra]⟩, ⟨rfl, by rw [Ra], by rw [Ra], by rw [Ra], by rw [Ra]⟩, fun j k _ _ _ => by rw [Ra], fun a _ => ⟨fun k _ => rfl, fun l _ => by rw [Ra]⟩, fun j _ => by rw [Ra]⟩
      have dR : DYN s R mu AL c 0 := by
        refine ⟨⟨by rw [Ri 97 (by decide) (by decide)]; exact a3.of feq, ⟨d2, R99⟩, d3.trans (hS_of (by rw [Ra]) 8).symm, ⟨by rw [Ri 85 (by decide) (by decide)]; exact d4, by rw [Ri 85 (by decide) (by decide), Ri 80 (by decide) (by decide)]; omega⟩, ?_, (Ri 115 (by decide) (by decide)).trans d7⟩, ?_⟩
        · unfold MUI at *
          rw [Ri 85 (by decide) (by decide)]
          exact d6
        · obtain ⟨o1, o2, o3, o4, o5, o6⟩ := op
          unfold OPW
          rw [Ri 95 (by decide) (by decide), Ra]
          exact ⟨o1, o2, o3, o4, o5, o6.of (fun k _ => by rw [Ra])⟩
      have tR : TLR s R := l10.of (fun _ _ => rfl) (fun _ _ => rfl) ⟨fun j hj => Ri j (by omega) (by omega), fun k _ => by rw [Ra]⟩
      have mR : MVS s R h := (l2.mvs (by rw [e73]; decide)).of rfl rfl R93 (by rw [Ra])
      have ec : EXC nm s (cPu s (s.i 74)) := ⟨fun j h1 _ _ _ => cPu_i h1, fun k _ h2 _ => cPu_a h2, ⟨rfl, rfl, rfl, rfl, rfl⟩, fun k _ => congrFun (cPu_a (by decide)) k⟩
      have ev : EXV nm R W := by
        rw [eW]
        exact ⟨fun j _ _ _ h4 => rPu_i h4, fun k _ _ _ h4 => rPu_a h4, fun l _ => congrFun (rPu_a (by decide)) l, le_80 (rPu_i (by decide))⟩
      have W80 : W.i 80 = r.i 80 := by
        rw [eW, rPu_i (by decide)]
        exact Ri 80 (by decide) (by decide)
      have mW : MVS (cPu s (s.i 74)) W (h + 1) := by
        rw [eW, ← e74]
        exact mR.push h6 (s.i 74)
      have W99 : W.i 99 = R.i 99 := ev.1 99 (by decide) (by decide) (by decide) (by decide)
      have Wa : ∀ k : Nat, k ≠ 82 → k ≠ 83 → k ≠ 84 → k ≠ 94 → W.a k = r.a k := fun k q1 q2 q3 q4 => by
        rw [ev.2.1 k q1 q2 q3 q4, Ra]
      have sy : SYN nm S V mu AL (h + 1) p q c 0 := by
        rw [eS, eV]
        refine SYN.mk1 ((cPu_i (by decide)).trans l1) mW (l3.of (cPu_i (by decide)) (cPu_i (by decide)) (cPu_a (by decide)) W80 ?_ ?_ ?_) (fun k l hk => ?_) (dR.ex ck ec ev) (tR.ex ec ev) ?_ ?_
        · rw [eW, rPu_i (by decide)]
          exact Ri 81 (by decide) (by decide)
        · rw [eW, rPu_a (by decide), Ra]
        · rw [eW, rPu_a (by decide), Ra]
        · rw [cPu_a (by decide), eW, rPu_a (by decide), Ra]
          exact l4 k l hk
        · rw [cPu_a (by decide), cPu_i (by decide)]
          exact ep
        · rw [W99, cl_nat R99, Wa 101 (by decide) (by decide) (by decide) (by decide), Wa 23 (by decide) (by decide) (by decide) (by decide), cl_nat a2]
          exact eq
      refine ⟨by rw [eV, ri_ne (by decide), W80], Or.inl ⟨S, x + 1, mu, h + 1, p, q, w, c, e3, sy, al, ?_⟩⟩
      rw [ad1 x0 (by omega)]
      omega
