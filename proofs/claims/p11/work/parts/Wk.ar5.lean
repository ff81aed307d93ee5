/-! both readers: an arm, from its first word on -/
/-- the tables from s0 on, over an entry -/
theorem TBC.ent {c : Int} {s0 s y : RS} {t : Nat} {v b : Int32} {L : List Nat} (hT : TBC c s0 s) (hn : ENR s t v b y) (hl : chn s (s.a 22 (s.a 66 t).toNatClampNeg) L) (hq : FQL s t L) (hL : ∀ j ∈ L, (s0.i 24).toInt ≤ (j : Int)) (h66 : 0 ≤ c ∧ c ≤ (s.a 66 t).toInt) : TBC c s0 y := by
  obtain ⟨e, k1, k2, k3, k4, k5, k6, k7, k8⟩ := hn.chain hl hq
  obtain ⟨n1, n2, n3, n4, n5, n6, n7, n8, n9, n10, -⟩ := id hn
  obtain ⟨⟨⟨t1, t2, t3, t4, t5, t6, t7, t8, t9, t10⟩, n, g43, g56, ⟨l59, m59⟩, b59, l29, m29, l33, m33, l24, m24⟩, l20, m20⟩ := hT
  have ya : ∀ k : Nat, k ≠ 22 → k ≠ 25 → k ≠ 26 → k ≠ 27 → k ≠ 28 → k ≠ 67 → y.a k = s.a k := n7
  have e24 : (y.i 24).toInt = (s.i 24).toInt + 1 := by rw [n1]; exact ad1 n2.1 (by omega)
  refine ⟨⟨⟨(n8 2 (by decide)).trans t1, (n8 3 (by decide)).trans t2, (n8 8 (by decide)).trans t3, (n8 38 (by decide)).trans t4, (n8 43 (by decide)).trans t5, (n8 2 (by decide)).trans t6, (n8 56 (by decide)).trans t7, (ya 1 (by decide) (by decide) (by decide) (by decide) (by decide) (by decide)).trans t8, (ya 4 (by decide) (by decide) (by decide) (by decide) (by decide) (by decide)).trans t9, by rw [n9]; exact t10⟩, fun j hj => ?_, fun j hj => ?_, fun j hj => ?_, ⟨?_, fun j k1 k2 => ?_⟩, fun j hj => ?_, ?_, fun j hj => ?_, ?_, fun j hj => ?_, by omega, fun j hj => ?_⟩, ?_, fun j hj => ?_⟩
  · rw [n9, ya 40 (by decide) (by decide) (by decide) (by decide) (by decide) (by decide), ya 41 (by decide) (by decide) (by decide) (by decide) (by decide) (by decide)]
    exact n j hj
  · rw [n9, ya 44 (by decide) (by decide) (by decide) (by decide) (by decide) (by decide), ya 46 (by decide) (by decide) (by decide) (by decide) (by decide) (by decide), ya 47 (by decide) (by decide) (by decide) (by decide) (by decide) (by decide), ya 50 (by decide) (by decide) (by decide) (by decide) (by decide) (by decide), ya 51 (by decide) (by decide) (by decide) (by decide) (by decide) (by decide), ya 48 (by decide) (by decide) (by decide) (by decide) (by decide) (by decide), ya 49 (by decide) (by decide) (by decide) (by decide) (by decide) (by decide)]
    exact g43 j hj
  · rw [ya 57 (by decide) (by decide) (by decide) (by decide) (by decide) (by decide), ya 58 (by decide) (by decide) (by decide) (by decide) (by decide) (by decide)]
    exact g56 j hj
  · rw [n8 59 (by decide)]
    exact l59
  · rw [n8 59 (by decide)] at k2
    rw [ya 62 (by decide) (by decide) (by decide) (by decide) (by decide) (by decide)]
    exact m59 j k1 k2
  · rw [ya 60 (by decide) (by decide) (by decide) (by decide) (by decide) (by decide), ya 61 (by decide) (by decide) (by decide) (by decide) (by decide) (by decide), ya 62 (by decide) (by decide) (by decide) (by decide) (by decide) (by decide)]
    exact b59 j hj
  · rw [n8 29 (by decide)]
    exact l29
  · rw [ya 30 (by decide) (by decide) (by decide) (by decide) (by decide) (by decide)]
    exact m29 j hj
  · rw [n8 33 (by decide)]
    exact l33
  · rw [ya 34 (by decide) (by decide) (by decide) (by decide) (by decide) (by decide), ya 37 (by decide) (by decide) (by decide) (by decide) (by decide) (by decide)]
    exact m33 j hj
  · have a := k6 j (by omega)
    have b := k7 j (by omega) (fun z => by have := hL j z; omega)
    rw [a.1, a.2, b]
    exact m24 j hj
  · rw [n8 20 (by decide)]
    exact l20
  · rw [k8 j (by intro z; have : ((s.a 66 t).toNatClampNeg : Int) = (s.a 66 t).toInt := clampI (by omega); omega)]
    exact m20 j hj
theorem s68_at {s : RS} {t : Nat} {v : Int32} : (RS.setA s 68 t v).a 68 t = v := by
  show upd (s.a 68) t v t = v
  exact if_pos rfl
/-- the entry of default -/
theorem AMI.dft {N : Nat} {d : Int32} {t : Nat} {f x4 x5 x : Int32} {c : Int} {L : List Nat} {S0 S : CS} {s0 s y : RS} (h : AMI d t f x4 c L S0 s0 S s) (hx : x.toNatClampNeg = t) (h5 : 0 ≤ x5.toInt) (g : f_X12_entry N (RS.setA s 68 t 1) x 0 1 = some y) : (∃ L' : List Nat, AMI d t f x5 c L' S0 s0 S y) ∧ y.i 11 = s.i 11 ∧ y.i 17 = s.i 17 ∧ phI y = phI s ∧ y.i 12 = s.i 12 := by
  obtain ⟨h1, h2, h3, h4, h5', h6, ⟨c1, c2, c3, c4⟩, ⟨p1, p2, p3, p4⟩, -, v1, v2, v3⟩ := h
  have en := y_entry hx g
  have b1 : vp_nar .boolean (1 : Int32) = 1 := by decide
  rw [b1] at en
  have ch : chn (RS.setA s 68 t 1) (s.a 22 (s.a 66 t).toNatClampNeg) L := chn.up (s := s) (u := RS.setA s 68 t 1) (Int.le_refl _) (fun _ _ => rfl) _ _ c2
  have ev : ENV d S (RS.setA s 68 t 1) := setA_env (Or.inr (by omega)) h1
  have tb : TBC c s0 (RS.setA s 68 t 1) := ⟨h5'.1.tr (setA_tb0 (Or.inr (by omega))), h5'.2⟩
  have fr : FRB t s0 (RS.setA s 68 t 1) := h6.tr (setA_frb (Or.inr ⟨by omega, by omega, Nat.le_refl _⟩))
  have tb2 := tb.ent en ch c3 c4 ⟨p1, p3⟩
  have s68 : (RS.setA s 68 t 1).a 68 t = 1 := s68_at
  have hh : (RS.setA s 68 t 1).i = s.i ∧ (RS.setA s 68 t 1).a 64 = s.a 64 ∧ (RS.setA s 68 t 1).a 66 = s.a 66 ∧ (RS.setA s 68 t 1).a 28 = s.a 28 ∧ (RS.setA s 68 t 1).a 25 = s.a 25 ∧ (RS.setA s 68 t 1).a 67 = s.a 67 ∧ (RS.setA s 68 t 1).a 22 = s.a 22 := ⟨rfl, rfl, rfl, rfl, rfl, rfl, rfl⟩
  obtain ⟨s', hs'⟩ : ∃ z, z = RS.setA s 68 t 1 := ⟨_, rfl⟩
  rw [← hs'] at en ch ev fr s68 hh
  have c3' : FQL s' t L := by
    unfold FQL at *
    rw [hh.2.2.2.2.2.1]
    exact c3
  have ch' : chn s' (s'.a 22 (s'.a 66 t).toNatClampNeg) L := by rw [hh.2.2.2.2.2.2, hh.2.2.1]; exact ch
  clear hs' g tb
  obtain ⟨e, k1, k2, k3, k4, k5, k6, k7, k8⟩ := en.chain ch' c3'
  obtain ⟨n1, n2, n3, n4, n5, n6, n7, n8, n9, n10, -⟩ := en
  have jl := chn.lt L _ ch
  have a64 : y.a 64 = s'.a 64 := n7 64 (by decide) (by decide) (by decide) (by decide) (by decide) (by decide)
  have a66 : y.a 66 = s'.a 66 := n7 66 (by decide) (by decide) (by decide) (by decide) (by decide) (by decide)
  have a68 : y.a 68 = s'.a 68 := n7 68 (by decide) (by decide) (by decide) (by decide) (by decide) (by decide)
  have y20 : y.i 20 = s.i 20 := (n8 20 (by decide)).trans (by rw [hh.1])
  have y11 : y.i 11 = s.i 11 := (n8 11 (by decide)).trans (by rw [hh.1])
  have y17 : y.i 17 = s.i 17 := (n8 17 (by decide)).trans (by rw [hh.1])
  have y12 : y.i 12 = s.i 12 := (n8 12 (by decide)).trans (by rw [hh.1])
  have y19 : y.i 19 = s.i 19 := (n8 19 (by decide)).trans (by rw [hh.1])
  have py : phI y = phI s := by
    unfold phI
    rw [y17, y20]
  have ey : ENV d S y := ev.kq (n8 38 (by decide)) (n8 2 (by decide)) (n8 3 (by decide)) (n8 18 (by decide)) (n8 53 (by decide)) (n8 54 (by decide)) (n8 55 (by decide)) (n7 1 (by decide) (by decide) (by decide) (by decide) (by decide) (by decide)) (n7 4 (by decide) (by decide) (by decide) (by decide) (by decide) (by decide)) (n7 41 (by decide) (by decide) (by decide) (by decide) (by decide) (by decide)) (by rw [n9]) (by rw [n9]) (n8 10 (by decide)) (n8 11 (by decide)) (n8 12 (by decide)) (n8 14 (by decide)) (n8 15 (by decide)) (n8 17 (by decide)) (n8 19 (by decide)) n10 ⟨by rw [y20]; exact h1.2.2.2.2.2.2.1, by rw [py]; exact h1.2.2.2.2.2.2.2.1⟩ (ev.wp.of (by rw [n8 43 (by decide)]; exact Int.le_refl _) (n8 56 (by decide)) (n8 59 (by decide)) (n8 29 (by decide)) (n7 58 (by decide) (by decide) (by decide) (by decide) (by decide) (by decide)) (n7 62 (by decide) (by decide) (by decide) (by decide) (by decide) (by decide)))
  have le : (s0.i 24).toInt ≤ (e : Int) := by
    have q := h5'.1.2.2.2.2.2.2.2.2.2.2.1
    rw [← k1, hh.1]
    exact q
  refine ⟨⟨L ++ [e], ey, ?_, by rw [a64, hh.2.1]; exact h3, h4, tb2, ?_, ⟨⟨c1.1, c1.2.1, fun w => ?_⟩, k2, k3, fun j hj => ?_⟩, ⟨p1, p2, by rw [a66, hh.2.2.1]; exact p3, by rw [a66, hh.2.2.1, y20]; exact p4⟩, ⟨by rw [a68, s68]; exact Or.inr rfl, by rw [a68, s68]; exact ⟨fun _ => h5, fun _ => rfl⟩⟩, v1, y19.trans v2, by rw [y11, py, y17]; exact v3⟩, y11, y17, py, y12⟩
  · show (y.i 63).toInt = (t : Int)
    rw [n8 63 (by decide), hh.1]
    exact h2
  · refine fr.tr (fun j hj => ⟨by rw [a64], by rw [n7 65 (by decide) (by decide) (by decide) (by decide) (by decide) (by decide)], by rw [a66], ?_, by rw [a68], by rw [n7 69 (by decide) (by decide) (by decide) (by decide) (by decide) (by decide)], by rw [n7 70 (by decide) (by decide) (by decide) (by decide) (by decide) (by decide)], by rw [n7 71 (by decide) (by decide) (by decide) (by decide) (by decide) (by decide)], by rw [n7 72 (by decide) (by decide) (by decide) (by decide) (by decide) (by decide)], by rw [n7 73 (by decide) (by decide) (by decide) (by decide) (by decide) (by decide)], by rw [n9]⟩)
    rw [n5]
    exact if_neg (by omega)
  · rw [c1.2.2 w]
    constructor
    · intro ⟨j, j1, j2, j3⟩
      have jj := jl j j1
      have a := k6 j (by omega)
      exact ⟨j, List.mem_append_left _ j1, by rw [a.2, hh.2.2.2.1]; exact j2, by rw [a.1, hh.2.2.2.2.1]; exact j3⟩
    · intro ⟨j, j1, j2, j3⟩
      rcases List.mem_append.mp j1 with z | z
      · have jj := jl j z
        have a := k6 j (by omega)
        rw [a.2, hh.2.2.2.1] at j2
        rw [a.1, hh.2.2.2.2.1] at j3
        exact ⟨j, z, j2, j3⟩
      · rcases List.mem_cons.mp z with rfl | z
        · rw [k5] at j2
          exact absurd j2 (by decide)
        · exact absurd z List.not_mem_nil
  · rcases List.mem_append.mp hj with z | z
    · exact c4 j z
    · rcases List.mem_cons.mp z with rfl | z
      · exact le
      · exact absurd z List.not_mem_nil
/-- the numbers so far, between two arms -/
def KD8 (f : Int32) (S : CS) (s : RS) : Prop := 3 * (S.i 22).toInt + 8 ≤ (s.i 11).toInt + KD S f.toInt (S.i 22).toInt
theorem y_arm {N : Nat} (hN : 1000 ≤ N) {E1 : CS → Option (Unit × CS)} {E2 : CS → Option (Int32 × CS)} (hm1 : ∀ σ, Kf (CS.i σ 32) (E1 σ)) (hm2 : ∀ σ, Kf (CS.i σ 32) (E2 σ)) (hE : SXR N 18 E1) (hB : ABK N (f_X7_armBlock N E1 E2)) {d : Int32} {t n : Nat} {f x3 x4 : Int32} {c : Int} {L : List Nat} {S0 S : CS} {s0 s U : RS} {R : Int32 × CS} {q0 : Nat} (hG : GA0 S0 s0) (hA : AMI d t f x4 c L S0 s0 S s) (hW : AMW 0 (fun _ _ => False) x3 q0 t U S0 s0 f x4 L S s) (hk : KD8 f S s) (hs : s.a 65 t = 2) (hc : S.i 43 = 219 ∨ S.i 43 = 220) (e : f_X1_arm N E1 E2 S f x4 x3 = some R) (g : f_X12_parse_10 N n s = some U) : (¬ R.2.i 32 = 0 ∧ ¬ U.i 15 = 0) ∨ ∃ (m : Nat) (u : RS), f_X12_parse_10 N m u = some U ∧ AMD x3 q0 U d t f R.1 c S0 s0 s R.2 u := by
  have hv := hA.1
  have ht := hA.2.1
  obtain ⟨m, V, hV, g2⟩ := rl_19 g ht hv.1.2.1 hA.2.2.1
  have i219 := tk_is hv (a := 219) (b := 429) (Or.inr ⟨by decide, by decide⟩) (by decide)
  have i220 := tk_is hv (a := 220) (b := 430) (Or.inr ⟨by decide, by decide⟩) (by decide)
  unfold f_X12_arms at hV
  obtain ⟨hib, hV⟩ := hf_ite hV
  rw [tp_nat ht, if_neg (show ¬ s.a 65 t = 0 by rw [hs]; decide), if_neg (show ¬ s.a 65 t = 1 by rw [hs]; decide), if_pos hs] at hV
  unfold f_X1_arm at e
  obtain ⟨w, ew, e⟩ := hf_bind e
  obtain ⟨-, n43, n44, n22, n18, n21⟩ := nt_i ew
  have nz : ¬ S.i 43 = 0 := fun z => by
    rcases hc with q | q <;> rw [q] at z <;> exact absurd z (by decide)
  have lc := hv.1.2.2.2.2.2.2.1
  have k11 := hv.1.2.2.2.1.1
  have k12 := hv.1.2.2.2.1.2.1
  by_cases k : S.i 43 = 220
  · -- default
    have kr := i220.mp k
    rw [if_neg (show ¬ s.i 10 = 429 by rw [kr]; decide), if_pos kr] at hV
    rw [e_fnd1 (show w.2.i 43 = 220 by rw [n43]; exact k), ob_some, if_neg n10] at e
    have r2 := hA.2.2.2.2.2.2.2.2.1
    unfold f_X1_arm_39 at e
    by_cases c4 : x4 < 0
    · rw [if_pos c4] at e
      have c4' : ¬ 0 ≤ x4.toInt := by
        have := lt_int c4
        rw [z_t0] at this
        omega
      rw [if_neg (fun z => c4' (r2.2.mp z))] at hV
      obtain ⟨y, hy, hV⟩ := hf_bind hV
      obtain ⟨v, hv2, hV⟩ := hf_bind hV
      cases hV
      obtain ⟨a, ea, e⟩ := hf_bind e
      have v6 := hA.2.2.2.2.2.2.2.2.2.2.2.2.2.2
      have w0 := (hv.nt (by omega) ew).2.1
      have w9 : 0 ≤ w.1.toInt := by
        have := hv.2.2.2.2.2.2.2.2.2.2.2.1
        omega
      obtain ⟨⟨L1, a1⟩, y11, y17, py, y12⟩ := hA.dft (x5 := w.1) (x := s.i 63) (tp_nat ht) w9 hy
      obtain ⟨⟨b1, b2, b3, b4, b5, b6, b7, b8⟩, -⟩ := a1.nadv hN nz ew ea hv2
      have c40 : x4.toInt < 0 := by
        have := lt_int c4
        rw [z_t0] at this
        exact this
      obtain ⟨L2, aw, ac, a20⟩ := (hW.tk (δ' := 0) (Z' := fun T v => T = w.1 ∧ v = s.i 20) (R := S) (u := s) (fun _ _ z => z.elim) (fun _ => ⟨CD1.rf _, CT7.rf _ _ _⟩) ⟨by omega, by omega⟩ (by omega) rfl rfl rfl rfl rfl rfl).dft hA (tp_nat ht) c40 w9 ⟨rfl, rfl⟩ hy
      have eL : L2 = L1 := chn.un _ _ _ ac a1.2.2.2.2.2.2.1.2.1
      subst eL
      obtain ⟨aw2, hU, b20⟩ := aw.nadv hN (Z' := fun T v => T = w.1 ∧ v = s.i 20) (fun _ _ z => z) a1.1 (by have := a1.2.2.2.2.2.2.2.2.2.2.2.2.2.2.1; omega) nz ew ea hv2
      have z1 := b1.s65 (v := 5)
      have v3 := hA.2.2.2.2.2.2.2.2.2.2.2.1
      have b8' : (y.i 12).toInt ≤ (v.i 11).toInt := b8
      rw [y12] at b8'
      have l2 := lc.2.2.2.2.2.1 (Or.inl (by rw [k]; decide))
      rw [k11, k12] at l2
      have kd : KDB f a.2 (RS.setA v 65 t 5) := by
        unfold KD8 at hk
        unfold KDB
        show 3 * (a.2.i 22).toInt + 10 ≤ (v.i 11).toInt + KD a.2 f.toInt (a.2.i 22).toInt
        rw [b3, KD.eq (s := S) (fun i _ => by rw [b4])]
        omega
      rcases y_arm100 hN hm1 hm2 hE hB z1.1 (z1.gar hG (show (s0.i 11).toInt + 2 ≤ (v.i 11).toInt by omega)) z1.2.1 z1.2.2.1 s65_at e g2 with z | ⟨m2, u, g3, xo, w7, acd⟩
      · exact Or.inl z
      · obtain ⟨q1, q2⟩ := z1.axo kd xo
        have y7 : (v.i 11).toInt + 1 ≤ (u.i 11).toInt := xo.2.2.2.2.2.2.1
        have y8 : phI v + 1 ≤ phI u := xo.2.2.2.2.2.2.2.1
        have y9 : (v.i 17).toInt + 1 ≤ (u.i 17).toInt := xo.2.2.2.2.2.2.2.2.1
        rw [y11] at b5
        rw [py] at b6
        rw [y17] at b7
        have aw3 := (aw2.tk (δ' := 0) (Z' := fun T v => T = w.1 ∧ v = s.i 20) (R := a.2) (u := RS.setA v 65 t 5) (fun _ _ z => z) (fun _ => ⟨CD1.rf _, CT7.rf _ _ _⟩) ⟨by omega, by omega⟩ (by omega) rfl rfl rfl rfl rfl rfl).arm z1 (show v.i 20 = s.i 20 from b20.trans a20) xo acd hU hG.2.2.2.2.2
        refine Or.inr ⟨m2, u, g3, ⟨⟨L2, ?_⟩, q2, xo.2.2.1.2.1, by omega, by omega, by omega⟩⟩
        rw [w7]
        exact ⟨q1, aw3⟩
    · rw [if_neg c4] at e
      have c4' : 0 ≤ x4.toInt := by
        have := le_int (Int32.not_lt.mp c4)
        rw [z_t0] at this
        exact this
      rw [if_pos (r2.2.mpr c4'), e_fail, ob_some, if_pos hv.1.2.1] at hV
      cases hV
      obtain ⟨p, ep, e⟩ := hf_bind e
      obtain ⟨a, ea, e⟩ := hf_bind e
      have f1 := y_fail (by decide) ep
      have f2 : ¬ a.2.i 32 = 0 := by rw [kF_X9_advance N p.2 a ea f1]; exact f1
      refine Or.inl ⟨by rw [kF_X1_arm_100 N E1 E2 hm1 hm2 a.2 x3 w.1 w.1 R e f2]; exact f2, u_flt g2 ?_⟩
      show ¬ (4 : Int32) = 0
      decide
  · -- case
    have k9 := hc.resolve_right k
    have kr := i219.mp k9
    rw [if_pos kr] at hV
    rw [e_fnd0 (show ¬ w.2.i 43 = 220 by rw [n43]; exact k), ob_some, if_pos rfl] at e
    obtain ⟨a, ea, e⟩ := hf_bind e
    obtain ⟨v, hv2, hV⟩ := hf_bind hV
    cases hV
    obtain ⟨⟨b1, b2, b3, b4, b5, b6, b7, b8⟩, -⟩ := hA.nadv hN nz ew ea hv2
    have v6' := hA.2.2.2.2.2.2.2.2.2.2.2.2.2.2
    have z1 := b1.s65 (v := 3)
    obtain ⟨aw2, hU, b20⟩ := hW.nadv hN (Z' := fun T v => T = w.1 ∧ v = s.i 20) (fun _ _ z => z.elim) hv (by omega) nz ew ea hv2
    have aw3 := aw2.tk (δ' := 1) (Z' := fun T v => T = w.1 ∧ v = s.i 20) (R := a.2) (u := RS.setA v 65 t 3) (fun _ _ z => z) (fun _ => ⟨CD1.rf _, CT7.rf _ _ _⟩) ⟨by omega, by omega⟩ (by omega) rfl rfl rfl rfl rfl rfl
    have v3 := hA.2.2.2.2.2.2.2.2.2.2.2.1
    have l2 := lc.2.2.2.2.2.2.1 (Or.inr k9)
    rw [k11, k12] at l2
    have kd : 3 * (a.2.i 22).toInt + 11 ≤ (v.i 11).toInt + KD a.2 f.toInt (a.2.i 22).toInt := by
      unfold KD8 at hk
      rw [b3, KD.eq (s := S) (fun i _ => by rw [b4])]
      omega
    have hi := i11_hi b1.1
    rcases y_nums hN hm1 hm2 hE hB hG N m L a.2 (RS.setA v 65 t 3) 0 R z1 aw3 b20 hU (show (s0.i 11).toInt + 2 ≤ (v.i 11).toInt by omega) kd s65_at (by decide) (by rw [z_t0]; exact hi.1) e g2 with z | ⟨m2, u, g3, ⟨w1, w2, w3, w4, w5, w6⟩, w7⟩
    · exact Or.inl z
    · have w4' : (v.i 11).toInt + 1 ≤ (u.i 11).toInt := w4
      have w5' : phI v + 1 ≤ phI u := w5
      have w6' : (v.i 17).toInt + 1 ≤ (u.i 17).toInt := w6
      rw [w7]
      exact Or.inr ⟨m2, u, g3, ⟨w1, w2, w3, by omega, by omega, by omega⟩⟩
