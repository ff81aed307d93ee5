/-! both readers: the numbers of an arm, then the arm -/
/-- an arm is done, seen from the place s -/
def AMD (x2 : Int32) (q0 : Nat) (U : RS) (d : Int32) (t : Nat) (f x4 : Int32) (c : Int) (S0 : CS) (s0 s : RS) (R : CS) (u : RS) : Prop := (∃ L : List Nat, AMI d t f x4 c L S0 s0 R u ∧ AMW 0 (fun _ _ => False) x2 q0 t U S0 s0 f x4 L R u) ∧ KDB f R u ∧ u.a 65 t = 2 ∧ (s.i 11).toInt + 1 ≤ (u.i 11).toInt ∧ phI s + 1 ≤ phI u ∧ (s.i 17).toInt + 1 ≤ (u.i 17).toInt
theorem y_nums {N : Nat} (hN : 1000 ≤ N) {E1 : CS → Option (Unit × CS)} {E2 : CS → Option (Int32 × CS)} (hm1 : ∀ σ, Kf (CS.i σ 32) (E1 σ)) (hm2 : ∀ σ, Kf (CS.i σ 32) (E2 σ)) (hE : SXR N 18 E1) (hB : ABK N (f_X7_armBlock N E1 E2)) {d : Int32} {t : Nat} {f x3 x5 tgt v0 : Int32} {q0 : Nat} {c : Int} {S0 : CS} {s0 U : RS} (hG : GA0 S0 s0) : ∀ (n1 : Nat) (n : Nat) (L : List Nat) (S : CS) (s : RS) (x6 : Int32) (R : Int32 × CS), AMI d t f x5 c L S0 s0 S s → AMW 1 (fun T v => T = tgt ∧ v = v0) x3 q0 t U S0 s0 f x5 L S s → s.i 20 = v0 → TGU tgt S0 S → (s0.i 11).toInt + 2 ≤ (s.i 11).toInt → 3 * (S.i 22).toInt + 11 ≤ (s.i 11).toInt + KD S f.toInt (S.i 22).toInt → s.a 65 t = 3 → 0 ≤ x6.toInt → x6.toInt ≤ (s.i 11).toInt → ((f_X1_caseNumber N S f tgt).bind fun p53 => f_X1_arm_70 N E1 E2 n1 p53.2 f x3 tgt x5 x6) = some R → f_X12_parse_10 N n s = some U → (¬ R.2.i 32 = 0 ∧ ¬ U.i 15 = 0) ∨ ∃ (m : Nat) (u : RS), f_X12_parse_10 N m u = some U ∧ AMD x3 q0 U d t f x5 c S0 s0 s R.2 u ∧ R.1 = x5
  | 0, _, _, _, _, _, _, _, _, _, _, _, _, _, _, _, e, _ => by
    obtain ⟨p, _, e⟩ := hf_bind e
    cases e
  | n1 + 1, n, L, S, s, x6, R, hA, hW, h20, hU, h2, hk, hs, x0, x9, e, g => by
    obtain ⟨p, ep, e⟩ := hf_bind e
    have fl : ¬ p.2.i 32 = 0 → ¬ R.2.i 32 = 0 := fun z => by rw [kF_X1_arm_70 N E1 E2 hm1 hm2 (n1 + 1) p.2 f x3 tgt x5 x6 R e z]; exact z
    have hv := hA.1
    have ht := hA.2.1
    have hk64 := hA.2.2.1
    have hc := hA.2.2.2.2.2.2.1
    obtain ⟨m, V, hV, g2⟩ := rl_19 g ht hv.1.2.1 hk64
    unfold f_X12_arms at hV
    obtain ⟨hib, hV⟩ := hf_ite hV
    rw [tp_nat ht, if_neg (show ¬ s.a 65 t = 0 by rw [hs]; decide), if_neg (show ¬ s.a 65 t = 1 by rw [hs]; decide), if_neg (show ¬ s.a 65 t = 2 by rw [hs]; decide), if_pos hs] at hV
    obtain ⟨q, hq, hV⟩ := hf_bind hV
    have kl := KD.le S f.toInt (S.i 22).toInt
    have pl := hv.1.2.2.2.2.1
    have pm := hv.1.2.2.1.2.1
    have lc0 := hv.1.2.2.2.2.2.2.1.2.1
    have k11 := hv.1.2.2.2.1.1
    have k12 := hv.1.2.2.2.1.2.1
    rw [k11, k12] at lc0
    rcases y_caseNumber hN hv (tp_nat ht) hc.1 hc.2.1 hc.2.2.1 (by omega) ep hq with ⟨o1, o2, o3⟩ | ⟨o1, o2, oc⟩
    · rw [if_pos o1] at hV
      cases hV
      exact Or.inl ⟨fl o2, u_flt g2 o3⟩
    · rw [if_neg (show ¬ q.1 = 0 by rw [o1]; decide)] at hV
      obtain ⟨⟨L', a1⟩, a2, a3, a4, a5, a6⟩ := hA.num hk o2
      have z44 : (S.i 44).toInt + 1 ≤ (p.2.i 44).toInt := by rw [hv.p44.1, a1.1.p44.1]; exact a4
      obtain ⟨L2, aw, ac, a20⟩ := hW.num hA o2 oc h20 z44
      have eL : L2 = L' := chn.un _ _ _ ac a1.2.2.2.2.2.2.1.2.1
      subst eL
      have hU2 : TGU tgt S0 p.2 := hU.mv (pj_21 o2.qpj) oc.1.2.2.2.2.2
      have e' : b_X1_arm_70 N E1 E2 (f_X1_arm_70 N E1 E2 n1) p.2 f x3 tgt x5 x6 = some R := e
      unfold b_X1_arm_70 f_X1_skip f_X1_skip_17 at e'
      have e900 : (900 : Int32).toInt = 900 := by decide
      have qv := a1.1
      have qpl := qv.1.2.2.2.2.1
      have qpm := qv.1.2.2.1.2.1
      have qlc := qv.1.2.2.2.2.2.2.1.2.1
      have q11 := qv.1.2.2.2.1.1
      have q12 := qv.1.2.2.2.1.2.1
      rw [q11, q12] at qlc
      have c9 : ¬ (900 : Int32) ≤ x6 := fun z => by
        have := le_int z
        omega
      rw [if_neg c9] at e'
      have i44 := tk_is qv (a := 44) (b := 44) (Or.inl ⟨by decide, by decide⟩) (by decide)
      obtain ⟨r, er, e'⟩ := hf_bind e'
      by_cases k : p.2.i 43 = 44
      · rw [if_pos (i44.mp k)] at hV
        unfold f_X12_arms_333 at hV
        rw [if_pos (show (RS.setA q.2 65 t 3).i 10 = 44 from i44.mp k), ob_id] at hV
        rw [e_fnd1 k, ob_some, if_neg n10] at er
        obtain ⟨a, ea, er⟩ := hf_bind er
        cases er
        obtain ⟨b1, b2, b3, b4, b5, b6, b7, b8⟩ := (a1.s65 (v := 3)).adv hN (by rw [k]; decide) ea hV
        have b5' : (q.2.i 11).toInt + 1 ≤ (V.i 11).toInt := b5
        obtain ⟨d1', d2', d3', d4', d5', d6', d7'⟩ := adv_cd hN (a1.s65 (v := 3)).1 (by rw [k]; decide) ea hV
        obtain ⟨p20, p15, p16, p17, p23, p38, p22, p19⟩ := pe_eq (ke_X9_advance N p.2 a ea)
        have aw2 := aw.tk (δ' := 1) (Z' := fun T v => T = tgt ∧ v = v0) (R := a.2) (u := V) (fun _ _ z => z) (fun _ => ⟨d1', d2' _ _⟩) ⟨by omega, by omega⟩ (by omega) p20 p22 b4 p19 (show qe V = qe (RS.setA q.2 65 t 3) from kre_f_X12_next N (RS.setA q.2 65 t 3) V hV) (by rw [b2]; rfl)
        have hU3 : TGU tgt S0 a.2 := hU2.mv d5' p17
        have b6' : phI V = phI q.2 + 3 := b6
        have b7' : (V.i 17).toInt = (q.2.i 17).toInt + 1 := b7
        have x61 : (x6 + 1).toInt = x6.toInt + 1 := ad1 x0 (by omega)
        have kb : 3 * (a.2.i 22).toInt + 11 ≤ (V.i 11).toInt + KD a.2 f.toInt (a.2.i 22).toInt := by
          unfold KDB at a2
          rw [b3, KD.eq (s := p.2) (fun i _ => by rw [b4])]
          omega
        have e2 : ((f_X1_caseNumber N a.2 f tgt).bind fun p53 => f_X1_arm_70 N E1 E2 n1 p53.2 f x3 tgt x5 (x6 + 1)) = some R := (if_neg n10).symm.trans e'
        rcases y_nums hN hm1 hm2 hE hB hG n1 m L2 a.2 V (x6 + 1) R b1 aw2 (d6'.trans a20) hU3 (by omega) kb (by rw [b2]; exact s65_at) (by omega) (by omega) e2 g2 with z | ⟨m2, u, g3, ⟨w1, w2, w3, w4, w5, w6⟩, w7⟩
        · exact Or.inl z
        · exact Or.inr ⟨m2, u, g3, ⟨w1, w2, w3, by omega, by omega, by omega⟩, w7⟩
      · have k' : ¬ q.2.i 10 = 44 := fun z => k (i44.mpr z)
        rw [if_neg k'] at hV
        unfold f_X12_arms_333 at hV
        rw [if_neg (show ¬ (RS.setA q.2 65 t 5).i 10 = 44 from k')] at hV
        cases hV
        rw [e_fnd0 k, ob_some, if_pos rfl] at er
        cases er
        have e2 : f_X1_arm_100 N E1 E2 p.2 x3 tgt x5 = some R := (if_pos rfl).symm.trans e'
        have a7 := a1.s65 (v := 5)
        rcases y_arm100 hN hm1 hm2 hE hB a7.1 (a7.gar hG (show (s0.i 11).toInt + 2 ≤ (q.2.i 11).toInt by omega)) a7.2.1 a7.2.2.1 s65_at e2 g2 with z | ⟨m2, u, g3, xo, w7, acd⟩
        · exact Or.inl z
        · obtain ⟨z1, z2⟩ := a7.axo (show KDB f p.2 (RS.setA q.2 65 t 5) from a2) xo
          have y7 : (q.2.i 11).toInt + 1 ≤ (u.i 11).toInt := xo.2.2.2.2.2.2.1
          have y8 : phI q.2 + 1 ≤ phI u := xo.2.2.2.2.2.2.2.1
          have y9 : (q.2.i 17).toInt + 1 ≤ (u.i 17).toInt := xo.2.2.2.2.2.2.2.2.1
          have aw3 := (aw.tk (δ' := 0) (Z' := fun T v => T = tgt ∧ v = v0) (R := p.2) (u := RS.setA q.2 65 t 5) (fun _ _ z => z) (fun _ => ⟨CD1.rf _, CT7.rf _ _ _⟩) ⟨by omega, by omega⟩ (by omega) rfl rfl rfl rfl rfl rfl).arm a7 a20 xo acd hU2 hG.2.2.2.2.2
          exact Or.inr ⟨m2, u, g3, ⟨⟨L2, z1, aw3⟩, z2, xo.2.2.1.2.1, by omega, by omega, by omega⟩, w7⟩
