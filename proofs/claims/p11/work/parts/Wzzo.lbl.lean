/-! both readers: NAME : -/
/-- as st_go, for a name: nothing is laid -/
theorem st_nm {N : Nat} {d : Int32} {B : CS} {b : RS} {t0 T n : Nat} {L : List CEL} {x : Int} {S : CS} {s U : RS} {c : CEL} (hC : COR d B b t0 (c :: L) x S s) (hS : STO c T S s) (h10 : s.i 10 = 2) (g : f_X12_parse_10 N n s = some U) : ∃ (m : Nat) (q : RS), f_X12_parse_10 N m q = some U ∧ WAY d T 0 0 0 0 0 S s (CS.setI (CS.setI S 36 1) 24 ((S.i 24) + 1)) q ∧ q.a 64 T = 5 ∧ q.a 65 T = 0 ∧ q.i 10 = 2 ∧ 3 ≤ phI s ∧ q.i 11 = s.i 11 ∧ q.l = s.l ∧ qe q = qe s ∧ NMV s q := by
  obtain ⟨q1, q2, q3, q4, q5, q6⟩ := id hS
  have hv := hC.1
  obtain ⟨m1, V1, hV1, g1⟩ := rl_2 g q4 hv.1.2.1 q5
  have hV2 := r_stat q4 h10 (K := 5) (Or.inr (Or.inr (Or.inr (Or.inr (Or.inr (Or.inr (Or.inr (Or.inr (Or.inr (Or.inr (Or.inr (Or.inr (Or.inr (Or.inr ⟨rfl, rfl⟩)))))))))))))) hV1
  have ph3 : 3 ≤ phI s := by
    have a := hC.2.2.2.2.2.2.1.2.1
    have b := (PDM.ge S (c :: L)).1
    have e := hC.2.2.2.2.2.2.2.2.2.2.2.1
    omega
  have w0 := WAY.stm (K := 5) hv q4
  obtain ⟨s1, hs1⟩ : ∃ y, y = RS.setA (RS.setI s 53 ((s.i 53) + 1)) 64 T 5 := ⟨_, rfl⟩
  have i1 : ∀ k : Nat, k ≠ 53 → s1.i k = s.i k := by
    rw [hs1]
    exact fun k h => if_neg h
  have a64 : s1.a 64 T = 5 := by
    rw [hs1]
    exact setA_at
  have aq : ∀ k : Nat, k ≠ 64 → s1.a k = s.a k := by
    rw [hs1]
    exact fun k h => setA_nk h
  have l1 : s1.l = s.l := by rw [hs1]; rfl
  have qs : qe s1 = qe s := by rw [hs1]; rfl
  rw [← hs1] at hV2 w0
  clear hs1
  unfold f_X12_stat_240 at hV2
  obtain ⟨-, hV2⟩ := hf_ite hV2
  rw [tp_nat q4, a64, if_neg (by decide), if_pos rfl] at hV2
  have hh : s1 = V1 := Option.some.inj hV2
  rw [← hh] at g1
  exact ⟨m1, s1, g1, w0, a64, by rw [aq 65 (by decide)]; exact q6, by rw [i1 10 (by decide)]; exact h10, ph3, i1 11 (by decide), l1, qs, i1 38 (by decide), fun j _ => by rw [aq 40 (by decide)]⟩
/-- the base, as p15's rows ask for it -/
theorem BSE.arm {S : CS} : ∀ (L : List CEL) (c : CEL), BSE S (c :: L) → -1 ≤ (S.i 56).toInt ∧ (∀ a : Nat, 0 ≤ (S.i 56).toInt → S.r 51 (S.i 56).toInt.toNat = some a → S.o a 0 = 302) ∧ (S.i 56).toInt ≤ (c.1 : Int) ∧ ∀ i : Nat, (S.i 56).toInt < (i : Int) → i ≤ c.1 → ∃ y ∈ c :: L, y.1 = i
  | [], c, h => by
    obtain ⟨h1, h2, h3, h4⟩ := h
    rcases h4 with ⟨z1, z2⟩ | ⟨z1, z2, z3⟩
    · refine ⟨by omega, fun a _ e => ?_, by omega, fun i i1 i2 => by omega⟩
      have : (S.i 56).toInt.toNat = c.1 := by omega
      rw [this, h1] at e
      cases e
      exact z2
    · refine ⟨by omega, fun a y _ => by omega, by omega, fun i i1 i2 => ⟨c, List.mem_cons_self, by omega⟩⟩
  | c0 :: L, c, h => by
    obtain ⟨h1, h2, h3, h4, h5⟩ := h
    obtain ⟨i1, i2, i3, i4⟩ := BSE.arm L c0 h5
    refine ⟨i1, i2, by omega, fun i j1 j2 => ?_⟩
    by_cases z : i = c.1
    · exact ⟨c, List.mem_cons_self, z.symm⟩
    · obtain ⟨y, hy, e⟩ := i4 i j1 (by omega)
      exact ⟨y, List.mem_cons_of_mem _ hy, e⟩
theorem BSE.at {S : CS} : ∀ (L : List CEL) (c : CEL), BSE S (c :: L) → ∀ y ∈ c :: L, S.r 51 y.1 = some y.2.1 ∧ y.1 < 400 ∧ (y.1 : Int) < (S.i 53).toInt
  | [], c, h, y, hy => by
    rcases List.mem_cons.mp hy with rfl | hy
    · exact ⟨h.1, h.2.1, h.2.2.1⟩
    · exact absurd hy List.not_mem_nil
  | c0 :: L, c, h, y, hy => by
    rcases List.mem_cons.mp hy with rfl | hy
    · exact ⟨h.1, h.2.1, h.2.2.1⟩
    · exact BSE.at L c0 h.2.2.2.2 y hy
theorem BSE.mv {S R : CS} : ∀ (L : List CEL), BSE S L → R.i 56 = S.i 56 → R.i 53 = S.i 53 → (∀ y ∈ L, R.r 51 y.1 = S.r 51 y.1 ∧ R.o y.2.1 = S.o y.2.1) → BSE R L
  | [], h, _, _, _ => h
  | [c], h, e1, e2, e3 => by
    obtain ⟨h1, h2, h3, h4⟩ := h
    obtain ⟨z1, z2⟩ := e3 c List.mem_cons_self
    exact ⟨z1.trans h1, h2, by rw [e2]; exact h3, by rw [e1, z2]; exact h4⟩
  | c :: c0 :: L, h, e1, e2, e3 => by
    obtain ⟨h1, h2, h3, h4, h5⟩ := h
    exact ⟨(e3 c List.mem_cons_self).1.trans h1, h2, by rw [e2]; exact h3, h4, BSE.mv (c0 :: L) h5 e1 e2 (fun y hy => e3 y (List.mem_cons_of_mem _ hy))⟩
/-- a label's row is paid -/
theorem PSR.lab {S R X : CS} {a m : Nat} {x3 : Int32} {l : Int64} (h : PSR S R a m 303 x3) (w : RWI S) (hm : (S.i 53).toInt = (m : Int)) (m4 : m < 399) (er : X.r = R.r) (eL : X.L = R.L) (ek : X.k = R.k) (eh : X.hs = R.hs) (e53 : X.i 53 = R.i 53) (eo : ∀ b : Nat, X.o b 0 = R.o b 0) (eol : ∀ b : Nat, b ≠ a → X.ol b = R.ol b) (el : X.ol a = l) (kn : 97 ≤ l.toInt ∧ l.toInt ≤ 122 → KLS S m (l.toInt - 97).toNat = false) (pay : WCS S m + (if 97 ≤ l.toInt ∧ l.toInt ≤ 122 then 2 else 3) ≤ eI X) (psg : SGS S m ≤ sgI X) : RWI X := by
  obtain ⟨-, -, ⟨j53, -⟩, rr1, rr2, ⟨z1, z2, z3⟩, nb, ob1, ⟨f0, -, -, fl⟩, -, -⟩ := id h
  have es : (cnI S).toNat = m := by
    show (S.i 53).toInt.toNat = m
    rw [hm]
    exact Int.toNat_natCast _
  have nr := w.2.2.2.1.2
  have iq := w.2.2.2.2.1
  rw [es] at nr iq
  have sX : ∀ b : Nat, b ≠ a → X.o b 0 = S.o b 0 ∧ X.ol b = S.ol b := fun b hb => by
    have z := ob1 b hb
    exact ⟨by rw [eo b, z.1], by rw [eol b hb, z.2]⟩
  have x0 : X.o a 0 = 303 := (eo a).trans f0
  have e53' : (X.i 53).toInt = (m : Int) + 1 := by rw [e53, j53, ad1 (by omega) (by omega), hm]
  have ec : (cnI X).toNat = m + 1 := by
    show (X.i 53).toInt.toNat = m + 1
    rw [e53']
    omega
  have rX : X.r 51 m = some a := by rw [er]; exact rr1
  -- a state in which just the new row is other
  have csm : CSQ S X m := fun i hi => ⟨by rw [er]; exact rr2 51 i (fun z => by omega), fun b hb => sX b (nb i b (by omega) (by omega) hb)⟩
  obtain ⟨c1, c2, c3, c4, c5⟩ := csm.sums nr
  have nrX : NR X (m + 1) := fun i hi => by
    by_cases c : i = m
    · exact ⟨a, by rw [c]; exact rX⟩
    · obtain ⟨b, hb⟩ := nr i (by omega)
      exact ⟨b, by rw [er, rr2 51 i (fun z => c z.2)]; exact hb⟩
  have rsX : RSQ X X m := fun i _ => ⟨rfl, fun _ _ => ⟨rfl, rfl⟩⟩
  have nrm : NR X m := fun i hi => nrX i (by omega)
  have iqX : IQ X m := fun k hk => by
    obtain ⟨i1, i2, i3, i4, i5⟩ := (csm.lo hk).sums (fun i hi => nr i (by omega))
    rw [i1, i3, i4, i5]
    exact iq k hk
  obtain ⟨u1, u2, -, -, -⟩ := rsX.put nrm rX
  have sg0 : sgn X a = 0 := by
    unfold sgn
    rw [x0]
    decide
  have fin : IQ X (m + 1) ∧ WCS X (m + 1) ≤ eI X := by
    by_cases sh : 97 ≤ l.toInt ∧ l.toInt ≤ 122
    · rw [if_pos sh] at pay
      obtain ⟨y1, y2⟩ := iqX.label rsX nrm rX ⟨x0, by rw [el]; exact sh⟩ (by rw [el, c5]; exact kn sh)
      exact ⟨y1, by rw [y2, c1]; exact pay⟩
    · rw [if_neg sh] at pay
      obtain ⟨y1, y2⟩ := iqX.plain rsX nrm rX ⟨by rw [x0]; decide, by rw [x0]; decide, by rw [x0]; decide, fun z => sh (by rw [el] at z; exact z.2)⟩
      exact ⟨y1, by rw [y2, c1]; exact pay⟩
  unfold RWI
  rw [ec]
  refine ⟨fun i b hi hb => ?_, fun i j b hi hj ha hb => ?_, by rw [eL, eh]; exact z3, ⟨by show 0 ≤ (X.i 53).toInt; omega, nrX⟩, fin.1, fin.2, by rw [u2, sg0, c2]; omega⟩
  · rw [er] at hb
    have q := z1 i b hi hb
    unfold oK at *
    rw [eL, ek]
    exact q
  · rw [er] at ha hb
    exact z2 i j b hi hj ha hb
