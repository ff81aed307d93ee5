/-! both readers: kinds that lie under others -/
theorem kn_und {N : Nat} {s : CS} {r : RS} (h : KND s r) {b : Int32} : ∀ (n1 n2 : Nat) (k x4 : Int32), 0 ≤ k.toInt → k.toInt < (r.i 3).toInt → 0 ≤ x4.toInt → x4.toInt + k.toInt < 12 → k.toInt + 2 ≤ n1 → k.toInt + 1 ≤ n2 → ∃ v : Int32, (v = 0 ∨ v = 1) ∧ f_X10_isUnder_5 N n1 s b k x4 = some (v, s) ∧ f_X12_isUnder_2 N n2 r b k = some (v, r)
  | 0, _, _, _, h0, _, _, _, h1, _ => by omega
  | n1 + 1, 0, _, _, h0, _, _, _, _, h2 => by omega
  | n1 + 1, n2 + 1, k, x4, h0, h3, h4, h5, h1, h2 => by
    have e12 : (12 : Int32).toInt = 12 := by decide
    have e1 : (1 : Int32).toInt = 1 := by decide
    have nx : ¬ (12 : Int32) ≤ x4 := fun q => by
      have := le_int q
      omega
    have nk : ¬ k < 0 := fun q => by
      have := lt_int q
      rw [z_t0] at this
      omega
    have es : (x4 + 1).toInt = x4.toInt + 1 := by rw [toInt_add] <;> rw [e1] <;> omega
    show ∃ v : Int32, (v = 0 ∨ v = 1) ∧ b_X10_isUnder_5 N (f_X10_isUnder_5 N n1) s b k x4 = some (v, s) ∧ b_X12_isUnder_2 N (f_X12_isUnder_2 N n2) r b k = some (v, r)
    unfold b_X10_isUnder_5 b_X12_isUnder_2 f_X10_isUnder_38 f_X12_isUnder_21
    by_cases c : k = b
    · exact ⟨1, Or.inr rfl, (if_neg nx).trans ((if_neg nk).trans (if_pos c)), (if_pos c).trans (if_pos c)⟩
    · by_cases d : k ≤ 0
      · have k0 : k.toInt = 0 := by
          have := le_int d
          rw [z_t0] at this
          omega
        have kz : k = 0 := Int32.toInt_inj.mp (by rw [k0, z_t0])
        refine ⟨0, Or.inl rfl, (if_neg nx).trans ((if_neg nk).trans ((if_neg c).trans ?_)), (if_neg c).trans ((if_pos d).trans (if_neg c))⟩
        have gk : gAt (s.a 9) 12 k = -1 := by
          rw [kz]
          unfold gAt
          exact (if_pos ⟨by decide, by decide⟩).trans h.2.1
        rw [gk]
        obtain ⟨n, rfl⟩ : ∃ n, n1 = n + 1 := ⟨n1 - 1, by omega⟩
        show b_X10_isUnder_5 N (f_X10_isUnder_5 N n) s b (-1) (x4 + 1) = some (0, s)
        unfold b_X10_isUnder_5 f_X10_isUnder_38
        by_cases f : (12 : Int32) ≤ x4 + 1
        · exact if_pos f
        · exact (if_neg f).trans (if_pos (by decide))
      · have kp : 0 < k.toInt := by
          have q : ¬ k.toInt ≤ 0 := fun q => d (by rw [Int32.le_iff_toInt_le, z_t0]; exact q)
          omega
        have hib : ib k 12 := ⟨h0, by omega⟩
        have ck := clampI h0
        obtain ⟨q1, q2⟩ := h.2.2.2.2 k.toNatClampNeg (by omega) (by omega)
        have gk : gAt (s.a 9) 12 k = r.a 4 k.toNatClampNeg := by
          unfold gAt
          exact (if_pos hib).trans (h.2.2.1 k.toNatClampNeg (by omega) (by omega))
        obtain ⟨v, v1, v2, v3⟩ := kn_und (N := N) h (b := b) n1 n2 (r.a 4 k.toNatClampNeg) (x4 + 1) q1 (by omega) (by omega) (by omega) (by omega) (by omega)
        refine ⟨v, v1, (if_neg nx).trans ((if_neg nk).trans ((if_neg c).trans ?_)), (if_neg c).trans ((if_neg d).trans ((if_pos hib).trans v3))⟩
        rw [gk]
        exact v2
theorem sm31 : ∀ k : Nat, k < 12 → (Int32.ofNat k &&& 31 = Int32.ofNat k ∧ (Int32.ofNat k).toBitVec.smod 32 = BitVec.ofNat 32 k ∧ (Int32.ofNat k).toInt = (k : Int) ∧ (BitVec.ofNat 32 k).toNat = k) := by decide +kernel
theorem one_k : ∀ n : Nat, n < 12 → ∀ k : Nat, k < 12 → (((1 : Int32) <<< Int32.ofNat n).toBitVec.getLsbD k = true ↔ k = n) := by decide +kernel
theorem and1 (x : BitVec 32) : x &&& 1#32 = 1#32 ↔ x.getLsbD 0 = true := by
  constructor
  · intro h
    have z := congrArg (fun y : BitVec 32 => y.getLsbD 0) h
    have z2 : (x &&& 1#32).getLsbD 0 = (1#32 : BitVec 32).getLsbD 0 := z
    rw [BitVec.getLsbD_and] at z2
    have o : (1#32 : BitVec 32).getLsbD 0 = true := by decide
    rw [o, Bool.and_true] at z2
    exact z2
  · intro h
    apply BitVec.eq_of_getLsbD_eq
    intro i hi
    rw [BitVec.getLsbD_and]
    by_cases c : i = 0
    · rw [c, h]
      rfl
    · have o : (1#32 : BitVec 32).getLsbD i = false := by
        rw [BitVec.getLsbD_one]
        simp [c]
      rw [o, Bool.and_false]
theorem bit_k (m : Int32) (k : Nat) (hk : k < 12) : ((m >>> Int32.ofNat k) &&& 1) = 1 ↔ m.toBitVec.getLsbD k = true := by
  obtain ⟨-, e, -, e2⟩ := sm31 k hk
  have q : ((m >>> Int32.ofNat k) &&& 1).toBitVec = (m.toBitVec.sshiftRight k) &&& 1#32 := by
    rw [Int32.toBitVec_and, Int32.toBitVec_shiftRight, e]
    show m.toBitVec.sshiftRight (BitVec.ofNat 32 k).toNat &&& 1#32 = _
    rw [e2]
  have w : ((m >>> Int32.ofNat k) &&& 1) = 1 ↔ (m.toBitVec.sshiftRight k) &&& 1#32 = 1#32 := by
    rw [← q]
    constructor
    · intro h
      rw [h]
      rfl
    · intro h
      exact Int32.toBitVec_inj.mp h
  rw [w, and1, BitVec.getLsbD_sshiftRight]
  have h32 : ¬ 32 ≤ 0 := by decide
  have hk2 : 0 + k < 32 := by omega
  simp [hk2, show k < 32 by omega]
/-- one kind more in the mask -/
theorem KMK.add {s s' : RS} {v : Int32} {L : List Nat} {n x : Nat} (h : KMK s v L) (hx : x < 12) (e : ∀ j ∈ L, s'.a 34 j = s.a 34 j) (en : (s'.a 34 n).toInt = (x : Int)) : KMK s' (v ||| ((1 : Int32) <<< (Int32.ofNat x &&& 31))) (L ++ [n]) := by
  refine ⟨fun k hk => ?_, fun j hj => ?_⟩
  rotate_left
  · rcases List.mem_append.mp hj with y | y
    · rw [e j y]
      exact h.2 j y
    · rcases List.mem_cons.mp y with y | y
      · rw [y, en]
        omega
      · exact absurd y List.not_mem_nil
  have b1 : ((v ||| ((1 : Int32) <<< (Int32.ofNat x &&& 31))) >>> Int32.ofNat k &&& 1) = 1 ↔ ((v >>> Int32.ofNat k) &&& 1) = 1 ∨ k = x := by
    rw [bit_k _ k hk, bit_k _ k hk, (sm31 x hx).1, Int32.toBitVec_or, BitVec.getLsbD_or, Bool.or_eq_true, one_k x hx k hk]
  rw [b1, h.1 k hk]
  constructor
  · rintro (⟨j, hj, z⟩ | z)
    · exact ⟨j, List.mem_append_left _ hj, by rw [e j hj]; exact z⟩
    · exact ⟨n, List.mem_append_right _ List.mem_cons_self, by rw [en, z]⟩
  · rintro ⟨j, hj, z⟩
    rcases List.mem_append.mp hj with y | y
    · exact Or.inl ⟨j, y, by rw [← e j y]; exact z⟩
    · rcases List.mem_cons.mp y with y | y
      · rw [y, en] at z
        exact Or.inr (by omega)
      · exact absurd y List.not_mem_nil
/-- whether a kind lies under another, in both -/
theorem kn_is {N : Nat} (hN : 1000 ≤ N) {S : CS} {r : RS} (h : KND S r) {x y : Int32} (hx : 0 ≤ x.toInt ∧ x.toInt < (r.i 3).toInt) : ∃ v : Int32, (v = 0 ∨ v = 1) ∧ f_X10_isUnder N S x y = some (v, S) ∧ f_X12_isUnder N r x y = some (v, r) := by
  have h12 := h.2.2.2.1
  exact kn_und h N N x 0 hx.1 hx.2 (by rw [z_t0]; exact Int.le_refl _) (by rw [z_t0]; omega) (by omega) (by omega)
/-- the class looks at every kind -/
theorem ck_loop {N : Nat} (hN : 1000 ≤ N) {S : CS} {r : RS} (kn : KND S r) {a : Nat} {x2 x3 : Int32} (h3 : 0 ≤ x3.toInt ∧ x3.toInt < (r.i 3).toInt) : ∀ (n k : Nat) (R : Unit × CS), k ≤ 12 → f_X7_caughtKind_47 N n S a x2 x3 (Int32.ofNat k) = some R → (¬ R.2.i 32 = 0 ∧ ∃ j : Nat, k ≤ j ∧ j < 12 ∧ ((S.o a 12 >>> Int32.ofNat j) &&& 1) = 1 ∧ f_X12_isUnder N r x3 (Int32.ofNat j) = some (1, r)) ∨ ((∀ j : Nat, k ≤ j → j < 12 → ((S.o a 12 >>> Int32.ofNat j) &&& 1) = 1 → f_X12_isUnder N r x3 (Int32.ofNat j) = some (0, r)) ∧ ∃ (p q : Unit × CS), f_X0_add N (CS.setO S a 12 (S.o a 12 ||| ((1 : Int32) <<< (x3 &&& 31)))) 56 (x2 * 16 + x3) = some p ∧ f_X9_advance N p.2 = some q ∧ R.2 = q.2)
  | 0, _, _, _, e => by cases e
  | n + 1, k, R, hk, e => by
    have e' : b_X7_caughtKind_47 N (f_X7_caughtKind_47 N n) S a x2 x3 (Int32.ofNat k) = some R := e
    unfold b_X7_caughtKind_47 at e'
    have h12 : ∀ j : Nat, j ≤ 12 → ((12 : Int32) ≤ Int32.ofNat j ↔ j = 12) := by decide +kernel
    have hs : ∀ j : Nat, j < 12 → Int32.ofNat j + 1 = Int32.ofNat (j + 1) := by decide +kernel
    by_cases c : k = 12
    · rw [if_pos ((h12 k hk).mpr c)] at e'
      obtain ⟨-, e'⟩ := hf_ite e'
      obtain ⟨p, hp, e'⟩ := hf_bind e'
      obtain ⟨q, hq, e'⟩ := hf_bind e'
      refine Or.inr ⟨fun j j1 j2 => by omega, p, q, hp, hq, by rw [← Option.some.inj e']⟩
    · rw [if_neg (fun z => c ((h12 k hk).mp z))] at e'
      obtain ⟨-, e'⟩ := hf_ite e'
      have kl : k < 12 := by omega
      rw [(sm31 k kl).1, hs k kl] at e'
      have ih := fun (R : Unit × CS) (h : f_X7_caughtKind_47 N n S a x2 x3 (Int32.ofNat (k + 1)) = some R) => ck_loop hN kn h3 n (k + 1) R (by omega) h
      by_cases b : ((S.o a 12 >>> Int32.ofNat k) &&& 1) = 1
      · rw [if_pos b] at e'
        obtain ⟨v, hv, u1, u2⟩ := kn_is hN kn (y := Int32.ofNat k) h3
        rw [u1, ob_some] at e'
        rcases hv with z | z
        · rw [if_pos z] at e'
          rcases ih R e' with ⟨w1, j, j1, j2, j3, j4⟩ | ⟨w1, w2⟩
          · exact Or.inl ⟨w1, j, by omega, j2, j3, j4⟩
          · refine Or.inr ⟨fun j j1 j2 j3 => ?_, w2⟩
            by_cases y : j = k
            · rw [y, u2, z]
            · exact w1 j (by omega) j2 j3
        · rw [if_neg (by rw [z]; exact (by decide : ¬ (1 : Int32) = 0))] at e'
          obtain ⟨p, hp, e'⟩ := hf_bind e'
          have f6 : ¬ p.2.i 32 = 0 := y_fail (by decide) hp
          refine Or.inl ⟨?_, k, Nat.le_refl _, kl, b, by rw [u2, z]⟩
          rw [kF_X7_caughtKind_47 N n p.2 a x2 x3 _ R e' f6]
          exact f6
      · rw [if_neg b] at e'
        rcases ih R e' with ⟨w1, j, j1, j2, j3, j4⟩ | ⟨w1, w2⟩
        · exact Or.inl ⟨w1, j, by omega, j2, j3, j4⟩
        · refine Or.inr ⟨fun j j1 j2 j3 => ?_, w2⟩
          by_cases y : j = k
          · rw [y] at j3
            exact absurd j3 b
          · exact w1 j (by omega) j2 j3
/-- the reference looks at what was caught -/
theorem rk_loop {N : Nat} (hN : 1000 ≤ N) {S : CS} {q V : RS} (kn : KND S q) (h15 : q.i 15 = 0) {x1 x2 : Int32} {K18 : RS → Int32 → Int32 → Int32 → Option RS} (hK : ∀ (σ : RS) (w0 w1 w2 : Int32), KVf σ (K18 σ w0 w1 w2)) (h3 : 0 ≤ (q.i 14).toInt ∧ (q.i 14).toInt < (q.i 3).toInt) : ∀ (n : Nat) (L : List Nat) (x4 : Int32), kch q x4 L → f_X12_catching_82 N K18 n q x1 x2 x4 = some V → (¬ V.i 15 = 0 ∧ ∃ j ∈ L, f_X12_isUnder N q (q.i 14) (q.a 34 j) = some (1, q)) ∨ ((∀ j ∈ L, f_X12_isUnder N q (q.i 14) (q.a 34 j) = some (0, q)) ∧ ∃ (m : Nat) (y : Int32), y.toInt < 0 ∧ f_X12_catching_82 N K18 (m + 1) q x1 x2 y = some V)
  | 0, _, _, _, e => by cases e
  | n + 1, [], x4, hk, e => Or.inr ⟨fun j hj => absurd hj List.not_mem_nil, n, x4, hk, e⟩
  | n + 1, j :: L, x4, hk, e => by
    obtain ⟨k1, k2, k3, k4⟩ := hk
    have e' : b_X12_catching_82 N K18 (f_X12_catching_82 N K18 n) q x1 x2 x4 = some V := e
    unfold b_X12_catching_82 at e'
    have n0 : ¬ x4 < 0 := fun z => by
      have := lt_int z
      rw [z_t0] at this
      omega
    have ej : x4.toNatClampNeg = j := by
      show x4.toInt.toNat = j
      omega
    rw [if_neg n0, if_pos h15, ej] at e'
    obtain ⟨-, e'⟩ := hf_ite e'
    obtain ⟨v, hv, u1, u2⟩ := kn_is hN kn (y := q.a 34 j) h3
    rw [u2, ob_some] at e'
    rcases hv with z | z
    · rw [if_pos z] at e'
      rcases rk_loop hN kn h15 hK h3 n L _ k4 e' with ⟨w1, i, i1, i2⟩ | ⟨w1, w2⟩
      · exact Or.inl ⟨w1, i, List.mem_cons_of_mem _ i1, i2⟩
      · refine Or.inr ⟨fun i hi => ?_, w2⟩
        rcases List.mem_cons.mp hi with y | y
        · rw [y, u2, z]
        · exact w1 i y
    · rw [if_neg (by rw [z]; exact (by decide : ¬ (1 : Int32) = 0))] at e'
      obtain ⟨p, hp, e'⟩ := hf_bind e'
      have f6 : ¬ p.i 15 = 0 := by
        unfold f_X12_fail at hp
        rw [if_pos h15] at hp
        rw [← Option.some.inj hp]
        show ¬ (6 : Int32) = 0
        decide
      exact Or.inl ⟨krf_f_X12_catching_82 N K18 hK n p x1 x2 _ V e' f6, j, List.mem_cons_self, by rw [u2, z]⟩
