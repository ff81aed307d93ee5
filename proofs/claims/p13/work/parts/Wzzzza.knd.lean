section
/-! both readers: kinds that lie under others -/
theorem kn_und {N : Nat} {s : CS} {r : RS} (h : KND s r) {b : Int32} : ∀ (n1 n2 : Nat) (k x4 : Int32), 0 ≤ k.toInt → k.toInt < (r.i 3).toInt → 0 ≤ x4.toInt → x4.toInt + k.toInt < 12 → k.toInt + 2 ≤ n1 → k.toInt + 1 ≤ n2 → ∃ v : Int32, (v = 0 ∨ v = 1) ∧ f_X10_isUnder_5 N n1 s b k x4 = some (v, s) ∧ f_X12_isUnder_2 N n2 r b k = some (v, r)
  | 0, _, _, _, h0, _, _, _, h1, _ => by omega
  | n1 + 1, 0, _, _, h0, _, _, _, _, h2 => by omega
  | n1 + 1, n2 + 1, k, x4, h0, h3, h4, h5, h1, h2 => by
    have e12 : (12 : Int32).toInt = 12 := by decide
    have e1 : (1 : Int32).toInt = 1 := by decide
    have nx : ¬ (12 : Int32) ≤ x4 := fun q => by
      have := le_int q
      omega
    have nk : ¬ k < 0 := fun q => by
      have := lt_int q
      rw [z_t0] at this
      omega
    have es : (x4 + 1).toInt = x4.toInt + 1 := by rw [toInt_add] <;> rw [e1] <;> omega
    show ∃ v : Int32, (v = 0 ∨ v = 1) ∧ b_X10_isUnder_5 N (f_X10_isUnder_5 N n1) s b k x4 = some (v, s) ∧ b_X12_isUnder_2 N (f_X12_isUnder_2 N n2) r b k = some (v, r)
    unfold b_X10_isUnder_5 b_X12_isUnder_2 f_X10_isUnder_38 f_X12_isUnder_21
    by_cases c : k = b
    · exact ⟨1, Or.inr rfl, (if_neg nx).trans ((if_neg nk).trans (if_pos c)), (if_pos c).trans (if_pos c)⟩
    · by_cases d : k ≤ 0
      · have k0 : k.toInt = 0 := by
          have := le_int d
          rw [z_t0] at this
          omega
        have kz : k = 0 := Int32.toInt_inj.mp (by rw [k0, z_t0])
        refine ⟨0, Or.inl rfl, (if_neg nx).trans ((if_neg nk).trans ((if_neg c).trans ?_)), (if_neg c).trans ((if_pos d).trans (if_neg c))⟩
        have gk : gAt (s.a 9) 12 k = -1 := by
          rw [kz]
          unfold gAt
          exact (if_pos ⟨by decide, by decide⟩).trans h.2.1
        rw [gk]
        obtain ⟨n, rfl⟩ : ∃ n, n1 = n + 1 := ⟨n1 - 1, by omega⟩
        show b_X10_isUnder_5 N (f_X10_isUnder_5 N n) s b (-1) (x4 + 1) = some (0, s)
        unfold b_X10_isUnder_5 f_X10_isUnder_38
        by_cases f : (12 : Int32) ≤ x4 + 1
        · exact if_pos f
        · exact (if_neg f).trans (if_pos (by decide))
      · have kp : 0 < k.toInt := by
          have q : ¬ k.toInt ≤ 0 := fun q => d (by rw [Int32.le_iff_toInt_le, z_t0]; exact q)
          omega
        have hib : ib k 12 := ⟨h0, by omega⟩
        have ck := clampI h0
        obtain ⟨q1, q2⟩ := h.2.2.2.2 k.toNatClampNeg (by omega) (by omega)
        have gk : gAt (s.a 9) 12 k = r.a 4 k.toNatClampNeg := by
          unfold gAt
          exact (if_pos hib).trans (h.2.2.1 k.toNatClampNeg (by omega) (by omega))
        obtain ⟨v, v1, v2, v3⟩ := kn_und (N := N) h (b := b) n1 n2 (r.a 4 k.toNatClampNeg) (x4 + 1) q1 (by omega) (by omega) (by omega) (by omega) (by omega)
        refine ⟨v, v1, (if_neg nx).trans ((if_neg nk).trans ((if_neg c).trans ?_)), (if_neg c).trans ((if_neg d).trans ((if_pos hib).trans v3))⟩
        rw [gk]
        exact v2
theorem sm31 : ∀ k : Nat, k < 12 → (Int32.ofNat k &&& 31 = Int32.ofNat k ∧ (Int32.ofNat k).toBitVec.smod 32 = BitVec.ofNat 32 k ∧ (Int32.ofNat k).toInt = (k : Int) ∧ (BitVec.ofNat 32 k).toNat = k) := by decide +kernel
theorem one_k : ∀ n : Nat, n < 12 → ∀ k : Nat, k < 12 → (((1 : Int32) <<< Int32.ofNat n).toBitVec.getLsbD k = true ↔ k = n) := by decide +kernel
theorem and1 (x : BitVec 32) : x &&& 1#32 = 1#32 ↔ x.getLsbD 0 = true := by
  constructor
  · intro h
    have z := congrArg (fun y : BitVec 32 => y.getLsbD 0) h
    have z2 : (x &&& 1#32).getLsbD 0 = (1#32 : BitVec 32).getLsbD 0 := z
    rw [BitVec.getLsbD_and] at z2
    have o : (1#32 : BitVec 32).getLsbD 0 = true := by decide
    rw [o, Bool.and_true] at z2
    exact z2
  · intro h
    apply BitVec.eq_of_getLsbD_eq
    intro i hi
    rw [BitVec.getLsbD_and]
    by_cases c : i = 0
    · rw [c, h]
      rfl
    · have o : (1#32 : BitVec 32).getLsbD i = false := by
        rw [BitVec.getLsbD_one]
        simp [c]
      rw [o, Bool.and_false]
theorem bit_k (m : Int32) (k : Nat) (hk : k < 12) : ((m >>> Int32.ofNat k) &&& 1) = 1 ↔ m.toBitVec.getLsbD k = true := by
  obtain ⟨-, e, -, e2⟩ := sm31 k hk
  have q : ((m >>> Int32.ofNat k) &&& 1).toBitVec = (m.toBitVec.sshiftRight k) &&& 1#32 := by
    rw [Int32.toBitVec_and, Int32.toBitVec_shiftRight, e]
    show m.toBitVec.sshiftRight (BitVec.ofNat 32 k).toNat &&& 1#32 = _
    rw [e2]
  have w : ((m >>> Int32.ofNat k) &&& 1) = 1 ↔ (m.toBitVec.sshiftRight k) &&& 1#32 = 1#32 := by
    rw [← q]
    constructor
    · intro h
      rw [h]
      rfl
    · intro h
      exact Int32.toBitVec_inj.mp h
  rw [w, and1, BitVec.getLsbD_sshiftRight]
  have h32 : ¬ 32 ≤ 0 := by decide
  have hk2 : 0 + k < 32 := by omega
  simp [hk2, show k < 32 by omega]
/-- one kind more in the mask -/
theorem KMK.add {s s' : RS} {v : Int32} {L : List Nat} {n x : Nat} (h : KMK s v L) (hx : x < 12) (e : ∀ j ∈ L, s'.a 34 j = s.a 34 j) (en : (s'.a 34 n).toInt = (x : Int)) : KMK s' (v ||| ((1 : Int32) <<< (Int32.ofNat x &&& 31))) (L ++ [n]) := by
  refine ⟨fun k hk => ?_, fun j hj => ?_⟩
  rotate_left
  · rcases List.mem_append.mp hj with y | y
    · rw [e j y]
      exact h.2 j y
    · rcases List.mem_cons.mp y with y | y
      · rw [y, en]
        omega
      · exact absurd y List.not_mem_nil
  have b1 : ((v ||| ((1 : Int32) <<< (Int32.ofNat x &&& 31))) >>> Int32.ofNat k &&& 1) = 1 ↔ ((v >>> Int32.ofNat k) &&& 1) = 1 ∨ k = x := by
    rw [bit_k _ k hk, bit_k _ k hk, (sm31 x hx).1, Int32.toBitVec_or, BitVec.getLsbD_or, Bool.or_eq_true, one_k x hx k hk]
  rw [b1, h.1 k hk]
  constructor
  · rintro (⟨j, hj, z⟩ | z)
    · exact ⟨j, List.mem_append_left _ hj, by rw [e j hj]; exact z⟩
    · exact ⟨n, List.mem_append_right _ List.mem_cons_self, by rw [en, z]⟩
  · rintro ⟨j, hj, z⟩
    rcases List.mem_append.mp hj with y | y
    · exact Or.inl ⟨j, y, by rw [← e j y]; exact z⟩
    · rcases List.mem_cons.mp y with y | y
      · rw [y, en] at z
        exact Or.inr (by omega)
      · exact absurd y List.not_mem_nil
/-- whether a kind lies under another, in both -/
theorem kn_is {N : Nat} (hN : 1000 ≤ N) {S : CS} {r : RS} (h : KND S r) {x y : Int32} (hx : 0 ≤ x.toInt ∧ x.toInt < (r.i 3).toInt) : ∃ v : Int32, (v = 0 ∨ v = 1) ∧ f_X10_isUnder N S x y = some (v, S) ∧ f_X12_isUnder N r x y = some (v, r) := by
  have h12 := h.2.2.2.1
  exact kn_und h N N x 0 hx.1 hx.2 (by rw [z_t0]; exact Int.le_refl _) (by rw [z_t0]; omega) (by omega) (by omega)
/-- the class looks at every kind -/
theorem ck_loop {N : Nat} (hN : 1000 ≤ N) {S : CS} {r : RS} (kn : KND S r) {a : Nat} {x2 x3 : Int32} (h3 : 0 ≤ x3.toInt ∧ x3.toInt < (r.i 3).toInt) : ∀ (n k : Nat) (R : Unit × CS), k ≤ 12 → f_X7_caughtKind_47 N n S a x2 x3 (Int32.ofNat k) = some R → (¬ R.2.i 32 = 0 ∧ ∃ j : Nat, k ≤ j ∧ j < 12 ∧ ((S.o a 12 >>> Int32.ofNat j) &&& 1) = 1 ∧ f_X12_isUnder N r x3 (Int32.ofNat j) = some (1, r)) ∨ ((∀ j : Nat, k ≤ j → j < 12 → ((S.o a 12 >>> Int32.ofNat j) &&& 1) = 1 → f_X12_isUnder N r x3 (Int32.ofNat j) = some (0, r)) ∧ ∃ (p q : Unit × CS), f_X0_add N (CS.setO S a 12 (S.o a 12 ||| ((1 : Int32) <<< (x3 &&& 31)))) 56 (x2 * 16 + x3) = some p ∧ f_X9_advance N p.2 = some q ∧ R.2 = q.2)
  | 0, _, _, _, e => by cases e
  | n + 1, k, R, hk, e => by
    have e' : b_X7_caughtKind_47 N (f_X7_caughtKind_47 N n) S a x2 x3 (Int32.ofNat k) = some R := e
    unfold b_X7_caughtKind_47 at e'
    have h12 : ∀ j : Nat, j ≤ 12 → ((12 : Int32) ≤ Int32.ofNat j ↔ j = 12) := by decide +kernel
    have hs : ∀ j : Nat, j < 12 → Int32.ofNat j + 1 = Int32.ofNat (j + 1) := by decide +kernel
    by_cases c : k = 12
    · rw [if_pos ((h12 k hk).mpr c)] at e'
      obtain ⟨-, e'⟩ := hf_ite e'
      obtain ⟨p, hp, e'⟩ := hf_bind e'
      obtain ⟨q, hq, e'⟩ := hf_bind e'
      refine Or.inr ⟨fun j j1 j2 => by omega, p, q, hp, hq, by rw [← Option.some.inj e']⟩
    · rw [if_neg (fun z => c ((h12 k hk).mp z))] at e'
      obtain ⟨-, e'⟩ := hf_ite e'
      have kl : k < 12 := by omega
      rw [(sm31 k kl).1, hs k kl] at e'
      have ih := fun (R : Unit × CS) (h : f_X7_caughtKind_47 N n S a x2 x3 (Int32.ofNat (k + 1)) = some R) => ck_loop hN kn h3 n (k + 1) R (by omega) h
      by_cases b : ((S.o a 12 >>> Int32.ofNat k) &&& 1) = 1
      · rw [if_pos b] at e'
        obtain ⟨v, hv, u1, u2⟩ := kn_is hN kn (y := Int32.ofNat k) h3
        rw [u1, ob_some] at e'
        rcases hv with z | z
        · rw [if_pos z] at e'
          rcases ih R e' with ⟨w1, j, j1, j2, j3, j4⟩ | ⟨w1, w2⟩
          · exact Or.inl ⟨w1, j, by omega, j2, j3, j4⟩
          · refine Or.inr ⟨fun j j1 j2 j3 => ?_, w2⟩
            by_cases y : j = k
            · rw [y, u2, z]
            · exact w1 j (by omega) j2 j3
        · rw [if_neg (by rw [z]; exact (by decide : ¬ (1 : Int32) = 0))] at e'
          obtain ⟨p, hp, e'⟩ := hf_bind e'
          have f6 : ¬ p.2.i 32 = 0 := y_fail (by decide) hp
          refine Or.inl ⟨?_, k, Nat.le_refl _, kl, b, by rw [u2, z]⟩
          rw [kF_X7_caughtKind_47 N n p.2 a x2 x3 _ R e' f6]
          exact f6
      · rw [if_neg b] at e'
        rcases ih R e' with ⟨w1, j, j1, j2, j3, j4⟩ | ⟨w1, w2⟩
        · exact Or.inl ⟨w1, j, by omega, j2, j3, j4⟩
        · refine Or.inr ⟨fun j j1 j2 j3 => ?_, w2⟩
          by_cases y : j = k
          · rw [y] at j3
            exact absurd j3 b
          · exact w1 j (by omega) j2 j3
/-- the reference looks at what was caught -/
theorem rk_loop {N : Nat} (hN : 1000 ≤ N) {S : CS} {q V : RS} (kn : KND S q) (h15 : q.i 15 = 0) {x1 x2 : Int32} {K18 : RS → Int32 → Int32 → Int32 → Option RS} (hK : ∀ (σ : RS) (w0 w1 w2 : Int32), KVf σ (K18 σ w0 w1 w2)) (h3 : 0 ≤ (q.i 14).toInt ∧ (q.i 14).toInt < (q.i 3).toInt) : ∀ (n : Nat) (L : List Nat) (x4 : Int32), kch q x4 L → f_X12_catching_82 N K18 n q x1 x2 x4 = some V → (¬ V.i 15 = 0 ∧ ∃ j ∈ L, f_X12_isUnder N q (q.i 14) (q.a 34 j) = some (1, q)) ∨ ((∀ j ∈ L, f_X12_isUnder N q (q.i 14) (q.a 34 j) = some (0, q)) ∧ ∃ (m : Nat) (y : Int32), y.toInt < 0 ∧ f_X12_catching_82 N K18 (m + 1) q x1 x2 y = some V)
  | 0, _, _, _, e => by cases e
  | n + 1, [], x4, hk, e => Or.inr ⟨fun j hj => absurd hj List.not_mem_nil, n, x4, hk, e⟩
  | n + 1, j :: L, x4, hk, e => by
    obtain ⟨k1, k2, k3, k4⟩ := hk
    have e' : b_X12_catching_82 N K18 (f_X12_catching_82 N K18 n) q x1 x2 x4 = some V := e
    unfold b_X12_catching_82 at e'
    have n0 : ¬ x4 < 0 := fun z => by
      have := lt_int z
      rw [z_t0] at this
      omega
    have ej : x4.toNatClampNeg = j := by
      show x4.toInt.toNat = j
      omega
    rw [if_neg n0, if_pos h15, ej] at e'
    obtain ⟨-, e'⟩ := hf_ite e'
    obtain ⟨v, hv, u1, u2⟩ := kn_is hN kn (y := q.a 34 j) h3
    rw [u2, ob_some] at e'
    rcases hv with z | z
    · rw [if_pos z] at e'
      rcases rk_loop hN kn h15 hK h3 n L _ k4 e' with ⟨w1, i, i1, i2⟩ | ⟨w1, w2⟩
      · exact Or.inl ⟨w1, i, List.mem_cons_of_mem _ i1, i2⟩
      · refine Or.inr ⟨fun i hi => ?_, w2⟩
        rcases List.mem_cons.mp hi with y | y
        · rw [y, u2, z]
        · exact w1 i y
    · rw [if_neg (by rw [z]; exact (by decide : ¬ (1 : Int32) = 0))] at e'
      obtain ⟨p, hp, e'⟩ := hf_bind e'
      have f6 : ¬ p.i 15 = 0 := by
        unfold f_X12_fail at hp
        rw [if_pos h15] at hp
        rw [← Option.some.inj hp]
        show ¬ (6 : Int32) = 0
        decide
      exact Or.inl ⟨krf_f_X12_catching_82 N K18 hK n p x1 x2 _ V e' f6, j, List.mem_cons_self, by rw [u2, z]⟩
end
section
/-! both readers: a catch is pushed -/
/-- no name has these cells, none these slots -/
def GNS (S R : CS) (s u : RS) : GPS := fun _ nm => ∀ k l : Nat, ((S.i 23).toInt ≤ (k : Int) ∧ (k : Int) < (R.i 23).toInt) ∨ ((s.i 42).toInt ≤ (l : Int) ∧ (l : Int) < (u.i 42).toInt) → ¬ nm k l
/-- what a catch's head changes: the try y, its last catch z, new catches -/
def DCT (y : Nat) (z : Int) (s u : RS) : Prop := (u.i 20 = s.i 20 ∧ u.i 24 = s.i 24 ∧ u.i 29 = s.i 29 ∧ (s.i 33).toInt ≤ (u.i 33).toInt) ∧ (u.a 21 = s.a 21 ∧ u.a 22 = s.a 22 ∧ u.a 23 = s.a 23) ∧ (u.a 25 = s.a 25 ∧ u.a 26 = s.a 26 ∧ u.a 27 = s.a 27 ∧ u.a 28 = s.a 28) ∧ (u.a 31 = s.a 31 ∧ u.a 32 = s.a 32 ∧ ∀ j : Nat, ¬ j = y → u.a 30 j = s.a 30 j) ∧ ∀ j : Nat, (j : Int) < (s.i 33).toInt → u.a 34 j = s.a 34 j ∧ u.a 35 j = s.a 35 j ∧ u.a 36 j = s.a 36 j ∧ (¬ (j : Int) = z → u.a 37 j = s.a 37 j)
/-- what is known of the new catches -/
def TCCH (U s u : RS) (r r6 : RVW) : Prop := (∀ j : Nat, (s.i 33).toInt ≤ (j : Int) → (j : Int) < (u.i 33).toInt → U.a 34 j = u.a 34 j ∧ U.a 35 j = u.a 35 j ∧ U.a 36 j = u.a 36 j ∧ (¬ (j : Int) = (r.2.1 72).toInt → U.a 37 j = u.a 37 j)) ∧ (0 ≤ (r6.2.1 72).toInt → U.a 37 (r6.2.1 72).toNatClampNeg = u.a 37 (r6.2.1 72).toNatClampNeg)
section
variable {A : JBA} {U : RS} {B : CS} {b : RS} {V0 : List RVW} {s0 : RS} {K : JKT} {a e : Int} {R0 R : CS} {u0 u : RS} {r r6 : RVW} {tl : List Int32} {y : Nat}
set_option maxHeartbeats 4000000 in
theorem JRG.pct (gv : Nat × Nat × List (Int32 × Nat)) (n8' : N8 B b V0 R0 u0 → N8 B b (r :: V0) R u) (dR : D38 (CS.setI R0 23 (R.i 23)) R) (i23 : (R.i 23).toInt = (R0.i 23).toInt + 1) (du : DCT y (r6.2.1 72).toInt u0 u) (h : JRG A U B b V0 s0 (tvs tl ++ [r6]) K a e R0 u0) (ty : r.v = 215) (t6 : isTyv r6) (p6 : ¬ r6.2.2.1 = 0) (wl : isWl r.v → isWl r6.v) (e2 : r.2.2 = r6.2.2 ∧ r.2.1 66 = r6.2.1 66 ∧ r.1 2 = r6.1 2 ∧ r.1 9 = r6.1 9 ∧ r.1 11 = r6.1 11) (n33 : 0 ≤ (u0.i 33).toInt) (n72 : (u0.i 33).toInt ≤ (r.2.1 72).toInt ∧ (r.2.1 72).toInt < (u.i 33).toInt) (h44 : (R0.i 44).toInt ≤ 900) (la : a ≤ -1) (le : e + 2 ≤ 0) (eJ : u.i 43 = s0.i 43 ∧ u.i 59 = s0.i 59 ∧ ∀ k : Nat, (k = 47 ∨ k = 48 ∨ k = 49 ∨ k = 50 ∨ k = 51 ∨ k = 60 ∨ k = 61 ∨ k = 62) → u.a k = s0.a k) (l19 : (s0.i 19).toInt ≤ (u.i 19).toInt) (l11 : (s0.i 11).toInt ≤ (u.i 11).toInt) (pl : ∀ q ∈ V0, q.2.2.1 < r.2.2.1) (tg : (rtgs r).Perm (tl ++ rtgs r6)) (y66 : (r.2.1 66).toInt = (y : Int)) (yb : (b.i 29).toInt ≤ (y : Int)) (t37 : ∀ j : Nat, (j : Int) < (b.i 33).toInt → u.a 37 j = u0.a 37 j) (nd : ∀ q ∈ V0, isTyv q → ¬ (q.2.1 66).toNatClampNeg = y) (nd2 : ∀ q ∈ V0, isTyv q → 0 ≤ (r6.2.1 72).toInt → ¬ q.2.1 72 = r6.2.1 72) (slo : SLO b → SLO u0 → (u0.i 42).toInt ≤ (u.i 42).toInt ∧ SLO u) (s15 : (u.a 31 y).toInt < 0 ∧ 3 * (gv.2.2.length : Int) + 3 ≤ (u.i 11).toInt ∧ ∀ z ∈ gv.2.2, ((z.2 : Nat) : Int) ≤ (R.i 20).toInt) (s30 : ∀ z ∈ gv.2.2, u.a 30 y = z.1) (hN : ∀ (nm : Nat → Nat → Prop) (G : GHT) (ω : Nat) (j : JCT), G r.2.2.1 = gv → NMH nm j.c R0 u0 → (frs j.c : Int) ≤ (s0.i 19).toInt → HC0 nm j.h j.c → ((2 * j.h + msr j.c : Nat) : Int) ≤ (s0.i 11).toInt → (r.1 2).toInt = (frs j.c : Int) → (0 ≤ (R0.i 23).toInt ∧ (R0.i 23).toInt < 720) → GNS R0 R u0 u (fun _ => True) nm → ((u0.i 42).toInt ≤ (u.i 42).toInt ∧ SLO u) → NMG nm (jen G ω r j.h j.l ++ j.c) R u ∧ HC0 nm j.h (jen G ω r j.h j.l ++ j.c) ∧ ((2 * j.h + msr (jen G ω r j.h j.l ++ j.c) : Nat) : Int) ≤ (u.i 11).toInt ∧ NB4 gv.2.1 r) (hK : ∀ (FC : Nat → Prop) (SF : CS) (nm : Nat → Nat → Prop) (X : Als) (G : GHT) (ω : Nat) (j : JCT) (Z : Prop), G r.2.2.1 = gv → 1300 ≤ ω → pcC R ≤ 1200 → HC0 nm j.h j.c → TYC SF U (GU FC SF U nm X) (ω + j.t) j.c → j.t ≤ j.l → TCCH U u0 u r r6 → SLO u0 → K FC SF nm X ω j Z → TRH FC SF U nm X G ω r j → (R.i 36 = 1 → GU2 FC SF U nm X (pcC R) (pcR u) j.h (ω + (j.l + jlv r.v) - pcC R) (jen G ω r j.h j.l ++ j.c)) → Z) : JRW A U B b (r :: V0) R u := by
  intro crB
  obtain ⟨b1, b2, b3, b4, Ψ, G, col, YJ, sax, ⟨pin, pin0⟩, tgi, ⟨jsj, bD, hds⟩, main⟩ := h crB
  obtain ⟨e22, e66, eo2, eo9, eo11⟩ := e2
  obtain ⟨⟨d20, d24, d29, d33⟩, ⟨d21, d22, d23⟩, ⟨d25, d26, d27, d28⟩, ⟨d31, d32, d30⟩, d34⟩ := du
  obtain ⟨-, -, -, r4, r5⟩ := crB.rms b1
  have tyr : isTyv r := Or.inr (Or.inl ty)
  have nvs : ∀ v : Int32, ¬ v = 215 → ¬ r.v = v := fun v hv q => hv (by rw [← q]; exact ty)
  have cky : (r.2.1 66).toNatClampNeg = y := by
    have := clampI (show 0 ≤ (r.2.1 66).toInt by omega)
    omega
  have df : dfr r.v = 1 := by
    unfold dfr
    exact if_pos (Or.inr (Or.inr (Or.inl ty)))
  have erj : rjw (tvs tl ++ [r6]) = [r6] := (tvs.rjw tl [r6]).trans (rjw.y ⟨show isTy r6.v from t6, p6⟩)
  have m6 : r6 ∈ tvs tl ++ [r6] := List.mem_append_right _ List.mem_cons_self
  have m6' : r6 ∈ tvs tl ++ [r6] ++ V0 := List.mem_append_left _ m6
  have pn : ∀ q ∈ V0, ¬ q.2.2.1 = r.2.2.1 := fun q hq z => by
    have := pl q hq
    omega
  have mt : ∀ {P : RVW → Prop}, (P r → P r6) → (∃ q ∈ r :: V0, P q) → ∃ q ∈ tvs tl ++ [r6] ++ V0, P q := fun {P} hr ⟨q, hq, p⟩ => by
    rcases List.mem_cons.mp hq with z | z
    · rw [z] at p
      exact ⟨r6, List.mem_append_left _ m6, hr p⟩
    · exact ⟨q, List.mem_append_right _ z, p⟩
  have pe : ∀ k : Nat, PEN (r :: V0) col k → PEN (tvs tl ++ [r6] ++ V0) col k := fun k p => p.imp_right (fun z => mt (P := fun q => rsite q k) (fun z => absurd z (tyv.site tyr)) z)
  have nv' : ¬ (r.v = 218 ∨ r.v = 995) := fun z => z.elim (nvs _ (by decide)) (nvs _ (by decide))
  have ph : ∀ k : Nat, PCH (r :: V0) k → PCH (tvs tl ++ [r6] ++ V0) k := fun k p => mt (P := fun q => (q.v = 218 ∨ q.v = 995) ∧ (k : Int) = (q.2.1 66).toInt) (fun z => absurd z.1 nv') p
  have pz : ∀ k : Nat, PCZ (r :: V0) k → PCZ (tvs tl ++ [r6] ++ V0) k := fun k p => mt (P := fun q => q.v = 218 ∧ (k : Int) = (q.2.1 67).toInt) (fun z => absurd (Or.inl z.1) nv') p
  have py : ∀ k : Nat, PTY (r :: V0) k → PTY (tvs tl ++ [r6] ++ V0) k := fun k p => mt (P := fun q => isTyv q ∧ (k : Int) = (q.2.1 66).toInt) (fun z => ⟨t6, by rw [← e66]; exact z.2⟩) p
  have paV : ∀ k : Nat, PCA V0 k → PCA (tvs tl ++ [r6] ++ V0) k := fun k ⟨q, hq, p⟩ => ⟨q, List.mem_append_right _ hq, p⟩
  have pa : ∀ k : Nat, PCA (r :: V0) k → (k : Int) = (r.2.1 72).toInt ∨ PCA V0 k := fun k ⟨q, hq, p⟩ => by
    rcases List.mem_cons.mp hq with z | z
    · rw [z] at p
      exact Or.inl p.2
    · exact Or.inr ⟨q, z, p⟩
  have pm : (ptl (r :: V0)).Perm (ptl (tvs tl ++ [r6] ++ V0)) := by
    rw [ptl.app, ptl.app, tvs_ptl]
    show (rtgs r ++ ptl V0).Perm ((tl ++ (rtgs r6 ++ [])) ++ ptl V0)
    rw [List.append_nil]
    exact tg.append_right _
  have x1 : KD1 0 2 R0 (CS.setI R0 23 (R.i 23)) := by
    refine ⟨⟨Int.le_refl _, ?_, ?_⟩, fun _ _ => ⟨rfl, rfl⟩, Int.le_refl _, ⟨?_, ?_⟩, Int.le_refl _, fun _ _ => rfl⟩
    · show (R0.i 20).toInt + (R0.i 44).toInt ≤ (R0.i 20).toInt + (R0.i 44).toInt + 0
      omega
    · show (R0.i 21).toInt + (R0.i 44).toInt ≤ (R0.i 21).toInt + (R0.i 44).toInt + 2
      omega
    · show (R0.i 23).toInt ≤ (R.i 23).toInt
      omega
    · show 2 * (R.i 23).toInt + (R0.i 44).toInt ≤ 2 * (R0.i 23).toInt + (R0.i 44).toInt + 2
      omega
  have b23 := b1.2.2.2.1.1
  have a17 : R.a 17 = R0.a 17 := dR.2.2.2.1
  have q20 : R.i 20 = R0.i 20 := dR.1.1
  have q21 : R.i 21 = R0.i 21 := dR.1.2.1
  replace b1 := (b1.tr x1).d dR
  replace bD := (bD.tr x1).d dR
  obtain ⟨⟨k1, k2, k3, k4, k5⟩, w1, w2, w3, w4⟩ := b3
  have b3' : KD2 (b.i 20).toInt b u := by
    refine ⟨⟨by rw [d20]; exact k1, by rw [d24]; exact k2, by rw [d29]; exact k3, by omega, fun sl => ⟨by have := (k5 sl).1; have := (slo sl (k5 sl).2).1; omega, (slo sl (k5 sl).2).2⟩⟩, fun j hj => by rw [d21, d22, d23]; exact w1 j hj, fun j hj => by rw [d25, d26, d27, d28]; exact w2 j hj, fun j hj => by rw [d31, d32, d30 j (by omega)]; exact w3 j hj, fun j hj => ?_⟩
    obtain ⟨z1, z2, z3, z4⟩ := d34 j (by omega)
    rw [z1, z2, z3, t37 j hj]
    exact w4 j hj
  have sax' : SAX (r :: V0) (GPS.an Ψ (GNS R0 R u0 u)) B b R u := fun sl => by
    obtain ⟨⟨su, lb⟩, F, M, ⟨g1, g2⟩, gM⟩ := sax sl
    have l42 := (k5 sl).1
    have d42 := (slo sl su).1
    refine ⟨⟨(slo sl su).2, fun k hk => ?_⟩, F, M, ⟨fun k l m => ?_, g2⟩, fun FC nm hh => ⟨gM FC nm ⟨fun y' y1 y2 y3 => hh.1 y' y1 (by rw [d29]; exact y2) (fun p => y3 (py _ p)), fun k l hkl => hh.2 k l ?_⟩, fun k l hkl q => ?_⟩⟩
    · rcases pa k hk with z | z
      · omega
      · exact lb k (paV k z)
    · obtain ⟨⟨m1, m2⟩, m3, m4⟩ := g1 k l m
      exact ⟨⟨m1, by omega⟩, m3, by omega⟩
    · rcases hkl with z | z
      · exact Or.inl ⟨z.1, by omega⟩
      · exact Or.inr ⟨z.1, by omega⟩
    · have z : M k l := (hh.2 k l (by
        rcases hkl with z | z
        · exact Or.inl ⟨by omega, z.2⟩
        · exact Or.inr ⟨by omega, z.2⟩)).mp q
      obtain ⟨⟨m1, m2⟩, m3, m4⟩ := g1 k l z
      omega
  replace tgi : TGI B (tvs tl ++ [r6] ++ V0) R := by
    unfold TGI at tgi ⊢
    rw [q21, a17]
    exact tgi
  obtain ⟨jsi, ⟨n1, n2, n3⟩, n4, n5⟩ := jsj
  rw [erj] at jsi n5
  have jsr : JSI Ψ (r :: V0) col YJ b s0 := JSI.rt jsi t6 tyr e22 e66 wl
  have gkv : GKV (r :: V0) s0 u := ⟨fun q hq go => by
    have z := (jsr.1 q hq go).1
    rw [eJ.2.2 50 (by decide), eJ.2.2 51 (by decide), eJ.2.2 48 (by decide), eJ.2.2 49 (by decide), eJ.2.2 47 (by decide)]
    exact ⟨by rw [eJ.1]; exact z, rfl, rfl, rfl, rfl, rfl⟩, by rw [eJ.2.1]; exact Int.le_refl _, fun j _ => by
    rw [eJ.2.2 60 (by decide), eJ.2.2 61 (by decide), eJ.2.2 62 (by decide)]
    exact ⟨rfl, rfl, rfl⟩⟩
  have jsu : JSI (GPS.an Ψ (GNS R0 R u0 u)) (r :: V0) col YJ b u := jsr.mw gkv (by rw [d20]; exact b4.1.1) (by rw [d29]; exact b4.1.2.2.1) (fun j hj => by rw [d22]; exact n4 j hj) (fun y y1 y2 => by
    rw [d31]
    exact n5 y y1 (fun ⟨q, hq, q1, q2⟩ => y2 ⟨r, List.mem_cons_self, tyr, by rw [List.mem_singleton.mp hq] at q2; rw [e66]; exact q2⟩)) (fun _ _ q => q.1)
  have swt : SWT (b.i 24).toInt (G.set r.2.2.1 gv) (r :: V0) R u := by
    have z : SWT (b.i 24).toInt G V0 R u := ⟨hds.2.1.mv (by rw [q20]; exact Int.le_refl _) (by rw [dR.1.2.2.1]; exact Int.le_refl _) (fun k _ => by rw [dR.2.2.2.2]; rfl) (by rw [d24]; exact Int.le_refl _) (fun j _ => by
      rw [d25, d26, d27, d28]
      exact ⟨rfl, rfl, rfl, rfl⟩) (fun _ _ _ => by rw [d22]) (fun _ _ _ => by rw [d31]) (fun q hq tq => d30 _ (nd q hq tq)), hds.2.2.mv (by rw [d20]; exact Int.le_refl _) (by rw [d29]; exact Int.le_refl _)⟩
    refine ⟨fun q hq => ?_, fun q hq => ?_⟩
    · rcases List.mem_cons.mp hq with e9 | hq
      · rw [e9]
        refine ⟨fun w => absurd w (nvs _ (by decide)), fun w => absurd w (nvs _ (by decide)), fun w => by rw [GHT.at]; exact s15.2.2, fun w => absurd w (nvs _ (by decide)), fun _ _ => by rw [cky]; exact s15.1, fun _ => by rw [GHT.at, cky]; exact s30⟩
      · have y := z.1 q hq
        unfold SWG
        rw [GHT.ne (pn q hq)]
        exact y
    · rcases List.mem_cons.mp hq with e9 | hq
      · rw [e9]
        refine ⟨fun w => absurd w (nvs _ (by decide)), fun w => ⟨by omega, ?_⟩, nvs _ (by decide)⟩
        have z := pin.2.2.1 _ (py _ ⟨r, List.mem_cons_self, tyr, y66.symm⟩)
        rw [d29]
        omega
      · exact z.2 q hq
  have dbs : DB (G.set r.2.2.1 gv) (r :: V0) = DB G V0 + dbr gv r.v := by
    show DB (G.set r.2.2.1 gv) V0 + dbr (G.set r.2.2.1 gv r.2.2.1) r.v = _
    rw [DB.gs V0 pn, GHT.at]
  have dbl : a + dbr gv r.v ≤ 0 := by
    unfold dbr
    rw [if_pos (Or.inr (Or.inr (Or.inr (Or.inr (Or.inl ty)))))]
    omega
  have hD : ∃ e : Int, (e = 0 ∨ (e = 1 ∧ ¬ ALN (R.i 43))) ∧ KD1 (-(DB (G.set r.2.2.1 gv) (r :: V0))) e B R := by
    rw [dbs]
    exact ⟨0, Or.inl rfl, bD.wk (by omega) le⟩
  refine ⟨⟨0, Or.inl rfl, b1.wk (by omega) le⟩, ⟨fun k k1 k2 => by rw [a17]; exact b2.1 k k1 k2, n8' b2.2⟩, b3', GPS.an Ψ (GNS R0 R u0 u), G.set r.2.2.1 gv, col, YJ, sax', ⟨fun k q => by rw [d20]; exact pin.1 k (pe k q), fun k q => by rw [d24]; exact pin.2.1 k (pz k q), fun k q => by rw [d29]; exact pin.2.2.1 k (py k q), fun k q => ?_⟩, ⟨pm.symm.nodup tgi.1, fun x hx => tgi.2 x (pm.mem_iff.mp hx)⟩, ⟨jsu, hD, fun q hq x hx => ?_, swt⟩, ?_⟩
  · rcases pa k q with z | z
    · omega
    · have := pin.2.2.2 k (paV k z)
      omega
  · rw [a17, q21, q20]
    rcases List.mem_cons.mp hq with z | z
    · rw [z] at hx
      exact absurd hx (tyv.hd tyr)
    · exact hds.1 q (List.mem_append_right _ z) x hx
  intro FC SF nm X h0 ω c0 psi ng0 hc0 hh0 hω
  obtain ⟨⟨ng, hc, hh, wn⟩, mn⟩ := main FC SF nm X h0 ω c0 psi.1 ng0 hc0 hh0 hω
  obtain ⟨w2', w9, w3'⟩ := (wn.1 r6 m6 (Or.inr ⟨t6, p6⟩)).2 t6
  have ecx : JCX (G.set r.2.2.1 gv) ω h0 c0 V0 = JCX G ω h0 c0 V0 := JCX.gs V0 pn
  have slb : SLO b := ng0.2.2.2.2.1
  have hj := hN nm (G.set r.2.2.1 gv) ω (JCX G ω h0 c0 V0) GHT.at ng.1 ng.2 hc hh (by rw [eo2]; exact w2') ⟨by omega, by omega⟩ psi.2 (slo slb (k5 slb).2)
  have hd : DPM (G.set r.2.2.1 gv) (frs c0) c0.length u (r :: V0) := ⟨⟨fun z => absurd z (tyv.go tyr), fun _ => ⟨by rw [eo2, w2', (JCX.cnt G ω h0 c0 V0).2.1], by rw [eo9]; exact w9⟩, fun _ => ⟨by rw [eo9, eo11]; exact w3'.1, by rw [eo11]; exact w3'.2.1, fun z => absurd z (nvs _ (by decide)), fun z => absurd z (nvs _ (by decide)), fun z => by omega⟩, fun z => by rw [GHT.at]; exact ⟨s15.2.1, hj.2.2.2⟩⟩, (DPM.gs V0 pn).mpr (wn.2.mv V0 (fun q hq go => by rw [eJ.2.2 47 (by decide)]) l11)⟩
  have e1 : JCX (G.set r.2.2.1 gv) ω h0 c0 (r :: V0) = ((JCX G ω h0 c0 V0).h, (JCX G ω h0 c0 V0).l + jlv r.v, jty r.v ((JCX G ω h0 c0 V0).l + jlv r.v) (JCX G ω h0 c0 V0).t, jen (G.set r.2.2.1 gv) ω r (JCX G ω h0 c0 V0).h (JCX G ω h0 c0 V0).l ++ (JCX G ω h0 c0 V0).c) := by
    show ((JCX (G.set r.2.2.1 gv) ω h0 c0 V0).h, (JCX (G.set r.2.2.1 gv) ω h0 c0 V0).l + jlv r.v, jty r.v ((JCX (G.set r.2.2.1 gv) ω h0 c0 V0).l + jlv r.v) (JCX (G.set r.2.2.1 gv) ω h0 c0 V0).t, jen (G.set r.2.2.1 gv) ω r (JCX (G.set r.2.2.1 gv) ω h0 c0 V0).h (JCX (G.set r.2.2.1 gv) ω h0 c0 V0).l ++ (JCX (G.set r.2.2.1 gv) ω h0 c0 V0).c) = _
    rw [ecx]
  rw [e1]
  refine ⟨⟨hj.1, hj.2.1, hj.2.2.1, hd⟩, fun fc fg hA tyc jr cur => ?_⟩
  have jr1 : JRH FC SF U nm X (G.set r.2.2.1 gv) col YJ ω r (JCX G ω h0 c0 V0) := by
    have z := jr.1
    rw [ecx] at z
    exact z
  have jr2 : JRS FC SF U nm X G col YJ ω h0 c0 V0 := by
    have z := jr.2
    rw [JRS.gs V0 pn] at z
    exact z
  have fc' : FGD (tvs tl ++ [r6] ++ V0) B R0 SF := (fc.d dR).pl (fun y hy => pm.mem_iff.mp hy)
  obtain ⟨f1, f4, f5, f6, f7⟩ := id fg
  have pyy : PTY (tvs tl ++ [r6] ++ V0) y := ⟨r6, m6', t6, by rw [← e66]; exact y66.symm⟩
  have fg' : FGP (tvs tl ++ [r6] ++ V0) col b u0 U := by
    refine ⟨by rw [← d20]; exact f1, fun j j1 j2 => ?_, fun j j1 j2 => ?_, fun j j1 j2 q => ?_, fun j j1 j2 => ?_⟩
    · rw [← d21, ← d22, ← d23]
      obtain ⟨z1, z2, z3⟩ := f4 j j1 (by rw [d20]; exact j2)
      exact ⟨z1, fun q => z2 (fun p => q (pe j p)), fun q => z3 (fun p => q (ph j p))⟩
    · rw [← d25, ← d26, ← d27, ← d28]
      obtain ⟨z1, z2, z3, z4⟩ := f5 j j1 (by rw [d24]; exact j2)
      exact ⟨z1, z2, fun q => z3 (fun p => q (pz j p)), z4⟩
    · rw [← d30 j (fun z => q (by rw [z]; exact pyy)), ← d31, ← d32]
      exact f6 j j1 (by rw [d29]; exact j2) (fun p => q (py j p))
    · obtain ⟨z1, z2, z3, z4⟩ := d34 j j2
      obtain ⟨y1, y2, y3, y4⟩ := f7 j j1 (by omega)
      rw [← z1, ← z2, ← z3]
      refine ⟨y1, y2, y3, fun q => ?_⟩
      rw [← z4 (fun z => q ⟨r6, m6', t6, z⟩)]
      refine y4 (fun p => ?_)
      rcases pa j p with z | z
      · omega
      · exact q (paV j z)
  have k0 := mn fc' fg' hA tyc jr2
  have tb : TCCH U u0 u r r6 := by
    refine ⟨fun j j1 j2 => ?_, fun z0 => ?_⟩
    · obtain ⟨y1, y2, y3, y4⟩ := f7 j (by omega) j2
      refine ⟨y1, y2, y3, fun q => y4 (fun p => ?_)⟩
      rcases pa j p with z | z
      · exact q z
      · have := pin.2.2.2 j (paV j z)
        omega
    · have ck := clampI z0
      have z1 := pin.2.2.2 _ ⟨r6, m6', t6, ck⟩
      refine (f7 _ (by have := (sax slb).1.2 _ ⟨r6, m6', t6, ck⟩; omega) (by omega)).2.2.2 (fun p => ?_)
      rcases pa _ p with z | ⟨q, hq, q1, q2⟩
      · omega
      · exact nd2 q hq q1 z0 (Int32.toInt_inj.mp (by omega))
  have z := hK FC SF nm X (G.set r.2.2.1 gv) ω _ _ GHT.at hω (by have := fc.1.2; unfold pcC; omega) hc (JRS.ty tyc V0 jr2) (JCX.tl G ω h0 c0 V0) tb (k5 slb).2 k0 (jr1.2.2.2.2.2.2.2.1 tyr) cur
  refine ⟨z.1, ?_⟩
  show JHH FC SF U nm X (G.set r.2.2.1 gv) ω r (JCX (G.set r.2.2.1 gv) ω h0 c0 V0) ∧ JHS FC SF U nm X (G.set r.2.2.1 gv) ω h0 c0 V0
  rw [JHS.gs V0 pn]
  exact ⟨⟨fun q => absurd q (nvs _ (by decide)), fun q => absurd q (nvs _ (by decide)), fun q => absurd q (nvs _ (by decide)), fun q => absurd q (nvs _ (by decide)), fun q => absurd q (nvs _ (by decide))⟩, z.2⟩
end
end
section
/-! both readers: a catch's head, kind by kind -/
/-- the class since the guarded row -/
def CTC (a : Nat) (S P : CS) : Prop := (P.i 22 = S.i 22 ∧ P.i 38 = S.i 38 ∧ P.i 50 = S.i 50 ∧ P.i 53 = S.i 53 ∧ P.i 54 = S.i 54 ∧ P.i 55 = S.i 55 ∧ P.i 56 = S.i 56) ∧ (P.i 21).toInt = (S.i 21).toInt + 2 ∧ (P.r = S.r ∧ P.ol = S.ol ∧ (P.hs = S.hs ∧ P.L = S.L ∧ P.k = S.k)) ∧ (P.a 18 = S.a 18 ∧ P.a 52 = S.a 52) ∧ (∀ b : Nat, b ≠ a → P.o b = S.o b) ∧ (∀ k : Nat, k ≠ 0 → k ≠ 8 → k ≠ 10 → k ≠ 12 → P.o a k = S.o a k) ∧ P.o a 0 = 215 ∧ P.o a 8 = 1
theorem CTC.pj {a : Nat} {S P R : CS} (h : CTC a S P) (e : pj R = pj P) (e22 : R.i 22 = P.i 22) (e18 : R.a 18 = P.a 18) : CTC a S R := by
  obtain ⟨-, -, -, -, -, -, -, -, -, -, -, -, i38, i50, i53, i54, i55, i56, -, -, -, -, a52, er, eo, eol, -, i21, ehk⟩ := pj_eq e
  obtain ⟨⟨h1, h2, h3, h4, h5, h6, h7⟩, h8, ⟨h9, h10, h11⟩, ⟨h12, h13⟩, h14, h15, h16, h17⟩ := h
  refine ⟨⟨e22.trans h1, i38.trans h2, i50.trans h3, i53.trans h4, i54.trans h5, i55.trans h6, i56.trans h7⟩, by rw [i21]; exact h8, ⟨er.trans h9, eol.trans h10, by rw [ehk.1, ehk.2.1, ehk.2.2]; exact h11⟩, ⟨e18.trans h12, a52.trans h13⟩, fun b hb => by rw [eo]; exact h14 b hb, fun k k1 k2 k3 k4 => by rw [eo]; exact h15 k k1 k2 k3 k4, by rw [eo]; exact h16, by rw [eo]; exact h17⟩
theorem CTC.m {a : Nat} {S P : CS} {w : Int32} (h : CTC a S P) : CTC a S (CS.setO P a 12 w) := by
  obtain ⟨h1, h8, h9, h12, h14, h15, h16, h17⟩ := h
  exact ⟨h1, h8, h9, h12, fun b hb => (so_ne hb).trans (h14 b hb), fun k k1 k2 k3 k4 => (so_nk k4).trans (h15 k k1 k2 k3 k4), (so_nk (by decide)).trans h16, (so_nk (by decide)).trans h17⟩
/-- what the head leaves alone -/
def KEQ (s q : RS) : Prop := (q.i 2 = s.i 2 ∧ q.i 3 = s.i 3 ∧ q.i 8 = s.i 8 ∧ q.i 20 = s.i 20 ∧ q.i 24 = s.i 24 ∧ q.i 29 = s.i 29 ∧ q.i 38 = s.i 38 ∧ q.i 43 = s.i 43 ∧ q.i 56 = s.i 56 ∧ q.i 59 = s.i 59) ∧ (q.b 9 = s.b 9 ∧ q.b 39 = s.b 39 ∧ q.b 45 = s.b 45) ∧ ∀ k : Nat, (k = 1 ∨ k = 4 ∨ k = 22 ∨ k = 25 ∨ k = 27 ∨ k = 28 ∨ k = 40 ∨ k = 41 ∨ k = 44 ∨ k = 46 ∨ k = 47 ∨ k = 48 ∨ k = 49 ∨ k = 50 ∨ k = 51 ∨ k = 57 ∨ k = 58 ∨ k = 60 ∨ k = 61 ∨ k = 62) → q.a k = s.a k
theorem KEQ.tr {s q u : RS} (h : KEQ s q) (g : KEQ q u) : KEQ s u := by
  obtain ⟨⟨a0, a1, a2, a3, a4, a5, a6, a7, a8, a9⟩, ⟨b0, b1, b2⟩, c⟩ := h
  obtain ⟨⟨d0, d1, d2, d3, d4, d5, d6, d7, d8, d9⟩, ⟨f0, f1, f2⟩, g⟩ := g
  exact ⟨⟨d0.trans a0, d1.trans a1, d2.trans a2, d3.trans a3, d4.trans a4, d5.trans a5, d6.trans a6, d7.trans a7, d8.trans a8, d9.trans a9⟩, ⟨f0.trans b0, f1.trans b1, f2.trans b2⟩, fun k hk => (g k hk).trans (c k hk)⟩
theorem KEQ.qj {s u : RS} (e : qj u = qj s) (e20 : u.i 20 = s.i 20) (e22 : u.a 22 = s.a 22) : KEQ s u := by
  obtain ⟨i2, i3, i8, -, i24, i29, -, i38, -, i43, -, -, -, -, i56, i59, -⟩ := qj_eq e
  refine ⟨⟨i2, i3, i8, e20, i24, i29, i38, i43, i56, i59⟩, qj_b e, fun k hk => ?_⟩
  by_cases z : k = 22
  · rw [z]
    exact e22
  · exact qj_a e k (by omega)
def CTR (T id : Nat) (s q : RS) (Lk Lc : List Nat) : Prop := (tpI q = (T : Int) ∧ FRB T s q) ∧ (∀ k : Nat, 64 ≤ k → k ≤ 73 → k ≠ 71 → k ≠ 72 → q.a k T = s.a k T) ∧ q.a 71 T = s.i 38 ∧ KEQ s q ∧ (s.i 33).toInt ≤ (q.i 33).toInt ∧ (∀ j : Nat, j ≠ id → q.a 30 j = s.a 30 j) ∧ (∀ j : Nat, (j : Int) < (s.i 33).toInt → q.a 34 j = s.a 34 j ∧ ((j : Int) ≠ (s.a 72 T).toInt → q.a 37 j = s.a 37 j)) ∧ kch q (q.a 30 id) Lc ∧ ((Lc = [] → (q.a 72 T).toInt < 0) ∧ (∀ (L0 : List Nat) (j : Nat), Lc = L0 ++ [j] → (q.a 72 T).toInt = (j : Int))) ∧ (∀ j ∈ Lc, j ∈ Lk ∨ (s.i 33).toInt ≤ (j : Int)) ∧ (q.a 72 T = s.a 72 T ∨ (s.i 33).toInt ≤ (q.a 72 T).toInt)
theorem kch.eq {s u : RS} (h33 : u.i 33 = s.i 33) (h37 : u.a 37 = s.a 37) {L : List Nat} {k : Int32} (h : kch s k L) : kch u k L := kch.up (by rw [h33]; exact Int.le_refl _) (fun j _ => by rw [h37]) L k h
theorem CTR.qj {T id : Nat} {s q u : RS} {Lk Lc : List Nat} (h : CTR T id s q Lk Lc) (e : qj u = qj q) (e20 : u.i 20 = q.i 20) (e22 : u.a 22 = q.a 22) : CTR T id s u Lk Lc := by
  obtain ⟨⟨h1, h2⟩, h3, h4, h5, h6, h7, h8, h9, h10, h11, h12⟩ := h
  have f : FRB (T + 1) q u := FRB.of e
  have i33 : u.i 33 = q.i 33 := (qj_eq e).2.2.2.2.2.2.1
  have a30 := qj_a e 30 (by decide)
  have a34 := qj_a e 34 (by decide)
  have a37 := qj_a e 37 (by decide)
  refine ⟨⟨qj_63 e h1, h2.tr (f.mo (by omega))⟩, fun k k1 k2 k3 k4 => (f.all k k1 k2).trans (h3 k k1 k2 k3 k4), (f.all 71 (by decide) (by decide)).trans h4, h5.tr (KEQ.qj e e20 e22), by rw [i33]; exact h6, fun j hj => by rw [a30]; exact h7 j hj, fun j hj => by rw [a34, a37]; exact h8 j hj, by rw [a30]; exact h9.eq i33 a37, by rw [f.all 72 (by decide) (by decide)]; exact h10, h11, by rw [f.all 72 (by decide) (by decide)]; exact h12⟩
/-- the chain gets a kind at its end -/
theorem kch.ext {q u : RS} {n l : Nat} {x : Int32} (h33 : (q.i 33).toInt ≤ (u.i 33).toInt) (nx : x.toInt = (n : Int)) (nu : (n : Int) < (u.i 33).toInt) (hn : (u.a 37 n).toInt < 0) (hl : u.a 37 l = x) : ∀ (L0 : List Nat) (k : Int32), kch q k (L0 ++ [l]) → (∀ j ∈ L0, u.a 37 j = q.a 37 j) → (∀ j ∈ L0 ++ [l], j < n) → kch u k ((L0 ++ [l]) ++ [n])
  | [], k, h, _, lt => by
    have l0 := lt l List.mem_cons_self
    refine ⟨h.1, by have := h.2.1; omega, fun i hi => ?_, ?_⟩
    · rcases List.mem_cons.mp hi with z | z
      · omega
      · exact absurd z List.not_mem_nil
    · rw [hl]
      exact ⟨nx, nu, fun i hi => absurd hi List.not_mem_nil, hn⟩
  | j :: L0, k, h, e, lt => by
    obtain ⟨h1, h2, h3, h4⟩ := h
    refine ⟨h1, by omega, fun i hi => ?_, ?_⟩
    · rcases List.mem_append.mp hi with z | z
      · exact h3 i z
      · rcases List.mem_cons.mp z with z | z
        · have := lt j List.mem_cons_self
          omega
        · exact absurd z List.not_mem_nil
    · rw [e j List.mem_cons_self]
      exact kch.ext h33 nx nu hn hl L0 _ h4 (fun i hi => e i (List.mem_cons_of_mem _ hi)) (fun i hi => lt i (List.mem_cons_of_mem _ hi))
theorem kch.inc {s : RS} : ∀ (L0 : List Nat) (l : Nat) (k : Int32), kch s k (L0 ++ [l]) → ∀ j ∈ L0, j < l
  | [], _, _, _, j, hj => absurd hj List.not_mem_nil
  | i :: L0, l, k, h, j, hj => by
    obtain ⟨h1, h2, h3, h4⟩ := h
    rcases List.mem_cons.mp hj with z | z
    · rw [z]
      exact h3 l (List.mem_append_right _ List.mem_cons_self)
    · exact kch.inc L0 l _ h4 j z
theorem lst_end {α : Type} : ∀ L : List α, L = [] ∨ ∃ (L0 : List α) (l : α), L = L0 ++ [l]
  | [] => Or.inl rfl
  | a :: L => by
    rcases lst_end L with h | ⟨L0, l, h⟩
    · exact Or.inr ⟨[], a, by rw [h]; rfl⟩
    · exact Or.inr ⟨a :: L0, l, by rw [h]; rfl⟩
theorem lst_inj {α : Type} {L M : List α} {a b : α} (h : L ++ [a] = M ++ [b]) : a = b := by
  have z := congrArg List.reverse h
  rw [List.reverse_append, List.reverse_append] at z
  exact (List.cons.inj z).1
theorem rsI_a {r : RS} {k : Nat} {w : Int32} : (RS.setI r k w).a = r.a := rfl
/-- the tables' step: the kind is laid behind what was caught -/
theorem CTR.add {T id n : Nat} {s q v : RS} {Lk Lc : List Nat} {num : Int32} (h : CTR T id s q Lk Lc) (hn : (q.i 33).toInt = (n : Int)) (h400 : n < 400) (hv : (0 ≤ (q.a 72 T).toInt ∧ v = RS.setI (RS.setA (RS.setA (RS.setA (RS.setA q 34 n num) 37 n (-1)) 37 (q.a 72 T).toNatClampNeg (q.i 33)) 72 T (q.i 33)) 33 (q.i 33 + 1)) ∨ ((q.a 72 T).toInt < 0 ∧ v = RS.setI (RS.setA (RS.setA (RS.setA (RS.setA q 34 n num) 37 n (-1)) 30 id (q.i 33)) 72 T (q.i 33)) 33 (q.i 33 + 1))) : CTR T id s v Lk (Lc ++ [n]) ∧ (∀ j : Nat, j ≠ n → v.a 34 j = q.a 34 j) ∧ v.a 34 n = num ∧ (∀ k : Nat, k ≠ 30 → k ≠ 34 → k ≠ 37 → k ≠ 72 → v.a k = q.a k) ∧ (∀ k : Nat, k ≠ 33 → v.i k = q.i k) ∧ v.l = q.l ∧ v.b = q.b := by
  obtain ⟨⟨h1, h2⟩, h3, h4, h5, h6, h7, h8, h9, ⟨h10, h10b⟩, h11, h12⟩ := h
  have em : (-1 : Int32).toInt = -1 := by decide
  have vi : ∀ k : Nat, k ≠ 33 → v.i k = q.i k := fun k hk => by
    rcases hv with ⟨-, z⟩ | ⟨-, z⟩ <;> rw [z] <;> exact if_neg hk
  have v33 : v.i 33 = q.i 33 + 1 := by
    rcases hv with ⟨-, z⟩ | ⟨-, z⟩ <;> rw [z] <;> rfl
  have vl : v.l = q.l ∧ v.b = q.b := by
    rcases hv with ⟨-, z⟩ | ⟨-, z⟩ <;> rw [z] <;> exact ⟨rfl, rfl⟩
  have va : ∀ k : Nat, k ≠ 30 → k ≠ 34 → k ≠ 37 → k ≠ 72 → v.a k = q.a k := fun k k1 k2 k3 k4 => by
    rcases hv with ⟨-, z⟩ | ⟨-, z⟩ <;> rw [z, rsI_a, setA_nk k4]
    · rw [setA_nk k3, setA_nk k3, setA_nk k2]
    · rw [setA_nk k1, setA_nk k3, setA_nk k2]
  have v34 : ∀ j : Nat, j ≠ n → v.a 34 j = q.a 34 j := fun j hj => by
    rcases hv with ⟨-, z⟩ | ⟨-, z⟩ <;> rw [z, rsI_a, setA_nk (by decide)]
    · rw [setA_nk (by decide), setA_nk (by decide), setA_ne hj]
    · rw [setA_nk (by decide), setA_nk (by decide), setA_ne hj]
  have v34n : v.a 34 n = num := by
    rcases hv with ⟨-, z⟩ | ⟨-, z⟩ <;> rw [z, rsI_a, setA_nk (by decide)]
    · rw [setA_nk (by decide), setA_nk (by decide)]
      exact setA_at
    · rw [setA_nk (by decide), setA_nk (by decide)]
      exact setA_at
  have v72 : v.a 72 T = q.i 33 := by
    rcases hv with ⟨-, z⟩ | ⟨-, z⟩ <;> rw [z, rsI_a] <;> exact setA_at
  have v72' : ∀ j : Nat, j ≠ T → v.a 72 j = q.a 72 j := fun j hj => by
    rcases hv with ⟨-, z⟩ | ⟨-, z⟩ <;> rw [z, rsI_a, setA_ne hj]
    · rw [setA_nk (by decide), setA_nk (by decide), setA_nk (by decide)]
    · rw [setA_nk (by decide), setA_nk (by decide), setA_nk (by decide)]
  have t33 : (v.i 33).toInt = (n : Int) + 1 := by rw [v33, ad1 (by omega) (by omega), hn]
  have lt := kch.lt Lc _ h9
  -- the chain
  have chain : kch v (v.a 30 id) (Lc ++ [n]) ∧ (∀ j : Nat, j ≠ id → v.a 30 j = q.a 30 j) ∧ (∀ j : Nat, j ≠ n → (j : Int) ≠ (q.a 72 T).toInt → v.a 37 j = q.a 37 j) := by
    rcases hv with ⟨h0, z⟩ | ⟨h0, z⟩
    · have v30 : v.a 30 = q.a 30 := by
        rw [z, rsI_a, setA_nk (by decide), setA_nk (by decide), setA_nk (by decide), setA_nk (by decide)]
      obtain ⟨l, hl⟩ : ∃ l : Nat, l = (q.a 72 T).toNatClampNeg := ⟨_, rfl⟩
      have el : (q.a 72 T).toInt = (l : Int) := by
        rw [hl]
        show _ = (((q.a 72 T).toInt.toNat : Nat) : Int)
        omega
      rw [← hl] at z
      rcases lst_end Lc with e0 | ⟨L0, l', e0⟩
      · have := h10 e0
        omega
      · have e1 := h10b L0 l' e0
        have ell : l' = l := by omega
        rw [ell] at e0
        have ll := lt l (by rw [e0]; exact List.mem_append_right _ List.mem_cons_self)
        have v37l : v.a 37 l = q.i 33 := by
          rw [z, rsI_a, setA_nk (by decide)]
          exact setA_at
        have v37n : v.a 37 n = -1 := by
          rw [z, rsI_a, setA_nk (by decide), setA_ne (show n ≠ l by omega)]
          exact setA_at
        have v37 : ∀ j : Nat, j ≠ n → j ≠ l → v.a 37 j = q.a 37 j := fun j j1 j2 => by
          rw [z, rsI_a, setA_nk (by decide), setA_ne j2, setA_ne j1, setA_nk (by decide)]
        refine ⟨?_, fun j _ => by rw [v30], fun j j1 j2 => v37 j j1 (fun y => j2 (by rw [y]; exact el.symm))⟩
        rw [v30, e0]
        rw [e0] at h9
        have inc := kch.inc L0 l _ h9
        refine kch.ext (by omega) hn (by omega) (by rw [v37n, em]; omega) v37l L0 _ h9 (fun j hj => v37 j ?_ ?_) (fun j hj => ?_)
        · have := lt j (by rw [e0]; exact List.mem_append_left _ hj)
          omega
        · have := inc j hj
          omega
        · have := lt j (by rw [e0]; exact hj)
          omega
    · have e0 : Lc = [] := by
        rcases lst_end Lc with e0 | ⟨L0, l', e0⟩
        · exact e0
        · have := h10b L0 l' e0
          omega
      have v30 : v.a 30 id = q.i 33 := by
        rw [z, rsI_a, setA_nk (by decide)]
        exact setA_at
      have v37n : v.a 37 n = -1 := by
        rw [z, rsI_a, setA_nk (by decide), setA_nk (by decide)]
        exact setA_at
      refine ⟨?_, fun j hj => ?_, fun j j1 _ => ?_⟩
      · rw [e0, v30]
        exact ⟨hn, by omega, fun i hi => absurd hi List.not_mem_nil, show (v.a 37 n).toInt < 0 by rw [v37n, em]; omega⟩
      · rw [z, rsI_a, setA_nk (by decide), setA_ne hj, setA_nk (by decide), setA_nk (by decide)]
      · rw [z, rsI_a, setA_nk (by decide), setA_nk (by decide), setA_ne j1, setA_nk (by decide)]
  obtain ⟨c1, c2, c3⟩ := chain
  obtain ⟨⟨a0, a1, a2, a3, a4, a5, a6, a7, a8, a9⟩, ⟨b0, b1, b2⟩, cc⟩ := h5
  refine ⟨⟨⟨?_, h2.tr (fun j hj => ⟨by rw [va 64 (by decide) (by decide) (by decide) (by decide)], by rw [va 65 (by decide) (by decide) (by decide) (by decide)], by rw [va 66 (by decide) (by decide) (by decide) (by decide)], by rw [va 67 (by decide) (by decide) (by decide) (by decide)], by rw [va 68 (by decide) (by decide) (by decide) (by decide)], by rw [va 69 (by decide) (by decide) (by decide) (by decide)], by rw [va 70 (by decide) (by decide) (by decide) (by decide)], by rw [va 71 (by decide) (by decide) (by decide) (by decide)], v72' j (by omega), by rw [va 73 (by decide) (by decide) (by decide) (by decide)], by rw [vl.2]⟩)⟩, fun k k1 k2 k3 k4 => by rw [va k (by omega) (by omega) (by omega) k4]; exact h3 k k1 k2 k3 k4, by rw [va 71 (by decide) (by decide) (by decide) (by decide)]; exact h4, ⟨⟨(vi 2 (by decide)).trans a0, (vi 3 (by decide)).trans a1, (vi 8 (by decide)).trans a2, (vi 20 (by decide)).trans a3, (vi 24 (by decide)).trans a4, (vi 29 (by decide)).trans a5, (vi 38 (by decide)).trans a6, (vi 43 (by decide)).trans a7, (vi 56 (by decide)).trans a8, (vi 59 (by decide)).trans a9⟩, ⟨by rw [vl.2]; exact b0, by rw [vl.2]; exact b1, by rw [vl.2]; exact b2⟩, fun k hk => by rw [va k (by omega) (by omega) (by omega) (by omega)]; exact cc k hk⟩, by omega, fun j hj => (c2 j hj).trans (h7 j hj), fun j hj => ⟨?_, fun z => ?_⟩, c1, ⟨fun z => ?_, fun L0 j z => ?_⟩, fun j hj => ?_, Or.inr (by rw [v72]; omega)⟩, v34, v34n, va, vi, vl.1, vl.2⟩
  · show (v.i 63).toInt = _
    rw [vi 63 (by decide)]
    exact h1
  · rw [v34 j (by omega)]
    exact (h8 j hj).1
  · rw [c3 j (by omega) (fun y => ?_)]
    · exact (h8 j hj).2 z
    · rcases h12 with w | w
      · rw [w] at y
        exact z y
      · omega
  · have w := congrArg List.length z
    rw [List.length_append] at w
    simp at w
  · have w := lst_inj z
    rw [v72, hn, w]
  · rcases List.mem_append.mp hj with z | z
    · exact h11 j z
    · rcases List.mem_cons.mp z with z | z
      · rw [z]
        exact Or.inr (by omega)
      · exact absurd z List.not_mem_nil
end
