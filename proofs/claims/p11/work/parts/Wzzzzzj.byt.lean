/-! both: the bytes that are fed -/
theorem b255 : ∀ i : Nat, i < 32 → ¬ i < 8 → (255#32).getLsbD i = false := by decide +kernel
theorem sh_bv (b : BitVec 32) (n : Nat) (hn : n ≤ 24) : b.sshiftRight n &&& 255#32 = b >>> n &&& 255#32 := by
  apply BitVec.eq_of_getLsbD_eq
  intro i hi
  rw [BitVec.getLsbD_and, BitVec.getLsbD_and, BitVec.getLsbD_sshiftRight, BitVec.getLsbD_ushiftRight]
  by_cases c : i < 8
  · rw [if_pos (by omega), decide_eq_false (show ¬ 32 ≤ i by omega)]
    rfl
  · rw [b255 i hi c, Bool.and_false, Bool.and_false]
def bC (x : Int32) (t : Nat) : Int32 := ((x.toUInt32 >>> ((Int32.ofNat t).toUInt32 &&& Int32.toUInt32 31)).toInt32 &&& 255)
def bR (x : Int32) (k : Nat) : Int32 := ((x >>> ((24 - (8 * (Int32.ofNat k - Int32.ofNat k / 4 * 4))) &&& 31)) &&& 255)
theorem sh_am : ∀ k : Nat, k < 20 → ((24 - (8 * (Int32.ofNat k - Int32.ofNat k / 4 * 4))) &&& 31).toBitVec.smod 32 = BitVec.ofNat 32 (8 * (3 - k % 4)) ∧ (BitVec.ofNat 32 (8 * (3 - k % 4))).toNat = 8 * (3 - k % 4) ∧ (((Int32.ofNat (8 * (3 - k % 4))).toUInt32 &&& Int32.toUInt32 31).toBitVec % 32).toNat = 8 * (3 - k % 4) := by decide +kernel
theorem b_eq (x : Int32) (k : Nat) (hk : k < 20) : bC x (8 * (3 - k % 4)) = bR x k := by
  obtain ⟨h1, h2, h3⟩ := sh_am k hk
  unfold bC bR
  apply Int32.toBitVec.inj
  rw [Int32.toBitVec_and, Int32.toBitVec_and, Int32.toBitVec_shiftRight, h1, UInt32.toBitVec_toInt32, UInt32.toBitVec_shiftRight, Int32.toBitVec_toUInt32]
  show x.toBitVec >>> (((Int32.ofNat (8 * (3 - k % 4))).toUInt32 &&& Int32.toUInt32 31).toBitVec % 32).toNat &&& 255#32 = x.toBitVec.sshiftRight (BitVec.ofNat 32 (8 * (3 - k % 4))).toNat &&& 255#32
  rw [h2, h3]
  exact (sh_bv _ _ (by omega)).symm
theorem sh_of : ∀ k : Nat, k < 4 → (Int32.ofNat (8 * k)).toInt = 8 * (k : Int) := by decide +kernel
/-- the class: one word -/
theorem fb_cls {N : Nat} {x1 : Int32} : ∀ (n : Nat) (s : CS) (x2 : Int32) (m p : Nat) (R : Unit × CS), x2.toInt = 8 * (m : Int) - 8 → m ≤ 4 → (s.i 5).toInt = (p : Int) → p + m ≤ 900 → f_X11_addBytes_3 N n s x1 x2 = some R → (R.2.i 5).toInt = ((p + m : Nat) : Int) ∧ (∀ j : Nat, j ≠ 5 → R.2.i j = s.i j) ∧ ∀ i : Nat, R.2.a 0 i = if p ≤ i ∧ i < p + m then bC x1 (8 * (m - 1 - (i - p))) else s.a 0 i
  | 0, _, _, _, _, _, _, _, _, _, e => by cases e
  | n + 1, s, x2, m, p, R, hx, hm, h5, hp, e => by
    have e' : b_X11_addBytes_3 N (f_X11_addBytes_3 N n) s x1 x2 = some R := e
    unfold b_X11_addBytes_3 at e'
    by_cases c : x2 < 0
    · have l := lt_int c
      rw [z_t0] at l
      have em : m = 0 := by omega
      rw [if_pos c] at e'
      rw [← Option.some.inj e', em]
      refine ⟨h5, fun _ _ => rfl, fun i => ?_⟩
      rw [if_neg (by omega)]
    · have l := le_int (Int32.not_lt.mp c)
      rw [z_t0] at l
      obtain ⟨k, rfl⟩ : ∃ k, m = k + 1 := ⟨m - 1, by omega⟩
      have e8 : (-8 : Int32).toInt = -8 := by decide
      have e1 : (1 : Int32).toInt = 1 := by decide
      have ex : (x2 + (-8)).toInt = 8 * (k : Int) - 8 := by rw [toInt_add] <;> rw [e8] <;> omega
      have e5 : (s.i 5 + 1).toInt = ((p + 1 : Nat) : Int) := by rw [toInt_add] <;> rw [e1] <;> omega
      have ek : x2 = Int32.ofNat (8 * k) := Int32.toInt_inj.mp (by rw [sh_of k (by omega)]; omega)
      rw [if_neg c, ek] at e'
      rw [ek] at ex
      have ib5 : ib (s.i 5) 900 := ⟨by omega, by omega⟩
      have en : (s.i 5).toNatClampNeg = p := by
        show (s.i 5).toInt.toNat = p
        rw [h5]
        exact Int.toNat_natCast _
      obtain ⟨Y, hY⟩ : ∃ Y, Y = CS.setI (CS.putA s 0 (gPut (s.a 0) 900 (s.i 5) (((x1 : Int32).toUInt32 >>> ((Int32.ofNat (8 * k)).toUInt32 &&& Int32.toUInt32 31)).toInt32 &&& 255))) 5 ((s.i 5) + 1) := ⟨_, rfl⟩
      rw [← hY] at e'
      have Y5 : (Y.i 5).toInt = ((p + 1 : Nat) : Int) := by rw [hY, ci_at]; exact e5
      have Yj : ∀ j : Nat, j ≠ 5 → Y.i j = s.i j := fun j hj => by
        rw [hY, ci_ne _ _ _ hj]
        rfl
      have Ya : ∀ i : Nat, Y.a 0 i = if i = p then bC x1 (8 * k) else s.a 0 i := fun i => by
        rw [hY]
        show gPut (s.a 0) 900 (s.i 5) (bC x1 (8 * k)) i = _
        unfold gPut
        rw [if_pos ib5, en]
        rfl
      clear hY
      obtain ⟨r1, r2, r3⟩ := fb_cls n Y _ k (p + 1) R ex (by omega) Y5 (by omega) e'
      refine ⟨by rw [r1]; omega, fun j hj => (r2 j hj).trans (Yj j hj), fun i => ?_⟩
      rw [r3 i, Ya i]
      by_cases c1 : p + 1 ≤ i ∧ i < p + 1 + k
      · rw [if_pos c1, if_pos (by omega), show k - 1 - (i - (p + 1)) = k + 1 - 1 - (i - p) by omega]
      · rw [if_neg c1]
        by_cases c2 : i = p
        · rw [if_pos c2, if_pos (by omega), c2, show k + 1 - 1 - (p - p) = k by omega]
        · rw [if_neg c2, if_neg (by omega)]
def sel5 (x1 x2 x3 x4 x5 : Int32) (j : Nat) : Int32 := if j < 4 then x1 else if j < 8 then x2 else if j < 12 then x3 else if j < 16 then x4 else x5
theorem fb_one {N : Nat} {x : Int32} {s : CS} {p : Nat} {R : Unit × CS} (h5 : (s.i 5).toInt = (p : Int)) (hp : p + 4 ≤ 900) (e : f_X11_addBytes N s x = some R) : (R.2.i 5).toInt = ((p + 4 : Nat) : Int) ∧ (∀ j : Nat, j ≠ 5 → R.2.i j = s.i j) ∧ ∀ i : Nat, R.2.a 0 i = if p ≤ i ∧ i < p + 4 then bC x (8 * (3 - (i - p))) else s.a 0 i := fb_cls N s 24 4 p R (by decide) (by omega) h5 hp e
theorem fd_cls {N : Nat} {s : CS} {x1 x2 x3 x4 x5 : Int32} {T : Int32 × CS} {p : Nat} (h5 : (s.i 5).toInt = (p : Int)) (hp : p + 20 ≤ 900) (e : f_X11_feed N s x1 x2 x3 x4 x5 = some T) : (∀ j : Nat, j ≠ 5 → T.2.i j = s.i j) ∧ ∀ i : Nat, T.2.a 0 i = if p ≤ i ∧ i < p + 20 then bC (sel5 x1 x2 x3 x4 x5 (i - p)) (8 * (3 - (i - p) % 4)) else s.a 0 i := by
  have e20 : (20 : Int32).toInt = 20 := by decide
  have e9 : (900 : Int32).toInt = 900 := by decide
  have e5 : (s.i 5 + 20).toInt = (s.i 5).toInt + 20 := by rw [toInt_add] <;> rw [e20] <;> omega
  unfold f_X11_feed at e
  rw [if_pos (Int32.le_iff_toInt_le.mpr (by rw [e5, e9]; omega))] at e
  obtain ⟨q1, g1, e⟩ := hf_bind e
  obtain ⟨q2, g2, e⟩ := hf_bind e
  obtain ⟨q3, g3, e⟩ := hf_bind e
  obtain ⟨q4, g4, e⟩ := hf_bind e
  obtain ⟨q5, g5, e⟩ := hf_bind e
  obtain ⟨a1, b1, c1⟩ := fb_one h5 (by omega) g1
  obtain ⟨a2, b2, c2⟩ := fb_one a1 (by omega) g2
  obtain ⟨a3, b3, c3⟩ := fb_one a2 (by omega) g3
  obtain ⟨a4, b4, c4⟩ := fb_one a3 (by omega) g4
  obtain ⟨-, b5, c5⟩ := fb_one a4 (by omega) g5
  have eT : T.2 = q5.2 := by rw [← Option.some.inj e]
  rw [eT]
  refine ⟨fun j hj => by rw [b5 j hj, b4 j hj, b3 j hj, b2 j hj, b1 j hj], fun i => ?_⟩
  rw [c5 i, c4 i, c3 i, c2 i, c1 i]
  unfold sel5
  by_cases w : p ≤ i ∧ i < p + 20
  · rw [if_pos w]
    by_cases w1 : i < p + 4
    · rw [if_neg (by omega), if_neg (by omega), if_neg (by omega), if_neg (by omega), if_pos (by omega), if_pos (by omega), show (i - p) % 4 = i - p by omega]
    · by_cases w2 : i < p + 8
      · rw [if_neg (by omega), if_neg (by omega), if_neg (by omega), if_pos (by omega), if_neg (by omega), if_pos (by omega), show (i - p) % 4 = i - (p + 4) by omega]
      · by_cases w3 : i < p + 12
        · rw [if_neg (by omega), if_neg (by omega), if_pos (by omega), if_neg (by omega), if_neg (by omega), if_pos (by omega), show (i - p) % 4 = i - (p + 4 + 4) by omega]
        · by_cases w4 : i < p + 16
          · rw [if_neg (by omega), if_pos (by omega), if_neg (by omega), if_neg (by omega), if_neg (by omega), if_pos (by omega), show (i - p) % 4 = i - (p + 4 + 4 + 4) by omega]
          · rw [if_pos (by omega), if_neg (by omega), if_neg (by omega), if_neg (by omega), if_neg (by omega), show (i - p) % 4 = i - (p + 4 + 4 + 4 + 4) by omega]
  · rw [if_neg w, if_neg (by omega), if_neg (by omega), if_neg (by omega), if_neg (by omega), if_neg (by omega)]
theorem of_k : ∀ k : Nat, k < 21 → (Int32.ofNat k).toInt = (k : Int) := by decide +kernel
theorem of_k1 : ∀ k : Nat, k < 20 → Int32.ofNat k + 1 = Int32.ofNat (k + 1) := by decide +kernel
/-- the reference: all of it -/
theorem fd_ref {N : Nat} {x1 x2 x3 x4 x5 : Int32} {p : Nat} (hp : p + 20 ≤ 900) : ∀ (n k : Nat) (r : RS) (U : Int32 × RS), k ≤ 20 → (r.i 2).toInt = (p : Int) → f_X12_feed_24 N n r x1 x2 x3 x4 x5 (Int32.ofNat k) = some U → (∀ j : Nat, j ≠ 2 → U.2.i j = r.i j) ∧ U.2.b = r.b ∧ ∀ i : Nat, U.2.a 1 i = if p + k ≤ i ∧ i < p + 20 then bR (sel5 x1 x2 x3 x4 x5 (i - p)) (i - p) else r.a 1 i
  | 0, _, _, _, _, _, g => by cases g
  | n + 1, k, r, U, hk, h2, g => by
    have g' : b_X12_feed_24 N (f_X12_feed_24 N n) r x1 x2 x3 x4 x5 (Int32.ofNat k) = some U := g
    unfold b_X12_feed_24 at g'
    have ok := of_k k (by omega)
    have e4 : (4 : Int32).toInt = 4 := by decide
    have e8 : (8 : Int32).toInt = 8 := by decide
    have e12 : (12 : Int32).toInt = 12 := by decide
    have e16 : (16 : Int32).toInt = 16 := by decide
    have e20 : (20 : Int32).toInt = 20 := by decide
    by_cases c : (20 : Int32) ≤ Int32.ofNat k
    · have l := le_int c
      rw [if_pos c] at g'
      rw [← Option.some.inj g']
      refine ⟨fun j hj => ri_ne hj, rfl, fun i => ?_⟩
      rw [if_neg (by omega)]
      rfl
    · have l : (k : Int) < 20 := by
        have := lt_int (Int32.not_le.mp c)
        omega
      have es : (r.i 2 + Int32.ofNat k).toInt = ((p + k : Nat) : Int) := by rw [toInt_add] <;> omega
      have en : (r.i 2 + Int32.ofNat k).toNatClampNeg = p + k := by
        show (r.i 2 + Int32.ofNat k).toInt.toNat = p + k
        rw [es]
        exact Int.toNat_natCast _
      have key : f_X12_feed_24 N n (RS.setA r 1 (p + k) (bR (sel5 x1 x2 x3 x4 x5 k) k)) x1 x2 x3 x4 x5 (Int32.ofNat (k + 1)) = some U := by
        rw [← of_k1 k (by omega)]
        rw [if_neg c, en] at g'
        unfold sel5 bR
        by_cases c4 : (4 : Int32) ≤ Int32.ofNat k
        · have l4 := le_int c4
          rw [if_pos c4] at g'
          rw [if_neg (show ¬ k < 4 by omega)]
          by_cases c8 : (8 : Int32) ≤ Int32.ofNat k
          · have l8 := le_int c8
            rw [if_pos c8] at g'
            rw [if_neg (show ¬ k < 8 by omega)]
            by_cases c12 : (12 : Int32) ≤ Int32.ofNat k
            · have l12 := le_int c12
              rw [if_pos c12] at g'
              rw [if_neg (show ¬ k < 12 by omega)]
              by_cases c16 : (16 : Int32) ≤ Int32.ofNat k
              · have l16 := le_int c16
                rw [if_pos c16] at g'
                rw [if_neg (show ¬ k < 16 by omega)]
                exact (hf_ite g').2
              · have l16 := lt_int (Int32.not_le.mp c16)
                rw [if_neg c16] at g'
                rw [if_pos (show k < 16 by omega)]
                exact (hf_ite g').2
            · have l12 := lt_int (Int32.not_le.mp c12)
              rw [if_neg c12] at g'
              rw [if_pos (show k < 12 by omega)]
              exact (hf_ite g').2
          · have l8 := lt_int (Int32.not_le.mp c8)
            rw [if_neg c8] at g'
            rw [if_pos (show k < 8 by omega)]
            exact (hf_ite g').2
        · have l4 := lt_int (Int32.not_le.mp c4)
          rw [if_neg c4] at g'
          rw [if_pos (show k < 4 by omega)]
          exact (hf_ite g').2
      obtain ⟨r1, r2, r3⟩ := fd_ref hp n (k + 1) (RS.setA r 1 (p + k) (bR (sel5 x1 x2 x3 x4 x5 k) k)) U (by omega) h2 key
      refine ⟨r1, r2, fun i => ?_⟩
      rw [r3 i]
      by_cases c1 : p + (k + 1) ≤ i ∧ i < p + 20
      · rw [if_pos c1, if_pos (by omega)]
      · rw [if_neg c1]
        by_cases c2 : i = p + k
        · rw [if_pos (by omega), c2, setA_at, show p + k - p = k by omega]
        · rw [if_neg (by omega)]
          exact setA_ne c2
