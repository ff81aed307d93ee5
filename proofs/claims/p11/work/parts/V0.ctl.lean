/-! the class's reading: all turns, whole -/
theorem q_turnsO {N : Nat} {E1 : CS → Option (Unit × CS)} {E2 : CS → Option (Int32 × CS)} {n : Nat} (hn : 1 ≤ n) {R : CS} {x1 x2 : Int32} (h : R.i 32 = 0 → R.i 53 ≤ x1) : ok (f_X7_turns_2 N E1 E2 n R x1 x2) (fun w => w.2 = R) := by
  obtain ⟨n', rfl⟩ : ∃ n', n = n' + 1 := ⟨n - 1, by omega⟩
  show ok (b_X7_turns_2 N E1 E2 (f_X7_turns_2 N E1 E2 n') R x1 x2) _
  rw [kTB.eq]
  refine ok_ite (fun _ => ok_ite (fun z => absurd (h z.1) z.2) (fun _ => ok_some rfl)) (fun _ => ok_ite (fun z => ?_) (fun _ => ok_some rfl))
  rw [if_pos (h z)]
  exact ok_some rfl
theorem q_turns2 {N : Nat} {H : HB} (hN : 10000000000 ≤ N) {k : Int} {E1 : CS → Option (Unit × CS)} {E2 : CS → Option (Int32 × CS)} (hE : ∀ b, EC (H.1, b) k E1) (hE2 : ∀ b, EC2 (H.1, b) k E2) {x y : Int} {X : List (Nat × List Nat)} {P : List Nat} {T : List Int} {B : CS} {n0 a0 : Nat} {b3 : Int} {x1 : Int32} (hx : x ≤ 3900) (hy : y + 3 * k ≤ 87 ∧ 0 ≤ k) (hB : B.i 32 = 0 ∧ NR B (n0 + 1)) (e0 : B.r 51 n0 = some a0) (e3 : (B.o a0 3).toInt = b3) (es : B.o a0 0 = 300 ∨ B.o a0 0 = 302) (eT : (T.length : Int) = 2 * AMS B (n0 + 1)) (hk : 24 - sgI B ≤ k) (n4 : n0 < 400) (hx1 : x1.toInt = (n0 : Int)) {Q : CS → Prop} (hQ1 : ∀ R : CS, CBS H R → ¬ R.i 32 = 0 → Q R) (hQe : ∀ (σ : CS) (c : List Nat), JJ H x y c X P (ccI σ :: T) σ → TIV H x y X P T B n0 b3 σ → TUR σ a0 n0 → σ.o a0 = B.o a0 → ok (f_X7_endList N σ a0) (fun R => Q R.2 ∧ (R.2.i 32 = 0 → cnI R.2 = (n0 : Int)))) : ∀ (n : Nat) (σ : CS) (x2 : Int32), 0 ≤ x2.toInt → 1 ≤ n → (σ.i 32 = 0 → 1802 - 2 * plI σ + cnI σ < n ∧ x2.toInt + (1802 - 2 * plI σ + cnI σ) ≤ 2300) → TIV H x y X P T B n0 b3 σ → ok (f_X7_turns_2 N E1 E2 n σ x1 x2) (fun R => Q R.2)
  | 0, _, _, _, h, _, _ => by omega
  | n + 1, σ, x2, z0, _, hM, hI => by
    show ok (b_X7_turns_2 N E1 E2 (f_X7_turns_2 N E1 E2 n) σ x1 x2) _
    rw [kTB.eq]
    by_cases nf : σ.i 32 = 0
    · obtain ⟨⟨c, j⟩, b1, b2, b4, b5, b6, b7, b8, b9⟩ := hI.2 nf
      obtain ⟨hM1, hM2⟩ := hM nf
      have e1 : (1 : Int32).toInt = 1 := by decide
      have e10 : (10000 : Int32).toInt = 10000 := by decide
      have pl9 : plI σ ≤ 900 := by
        have a := j.1.2.2.1.2.1
        have b := j.1.2.2.1.1
        unfold plI; omega
      have cn := j.1.2.2.2.2.2.2.1
      rw [if_neg (by
        intro q
        have := le_int q
        rw [e10] at this
        omega), if_pos nf, if_neg (by
        intro q
        have := le_int q
        unfold cnI at b4
        omega)]
      obtain ⟨m, hm⟩ : ∃ m : Nat, cnI σ = (m : Int) + 1 := ⟨(cnI σ).toNat - 1, by omega⟩
      have i53 : (σ.i 53 - 1).toInt = (m : Int) := by
        have c4 := cn.2.1
        unfold cnI at hm c4
        rw [toInt_sub] <;> rw [e1] <;> omega
      refine ok_bind (q_row j.1 (σ.i 53 - 1)) (fun p hp => ?_)
      obtain ⟨p1, p2⟩ := hp
      rw [p1]
      rcases p2 with ⟨q1, q2⟩ | ⟨a, q1, q2, q3, q4⟩
      · exact absurd (by omega) q2
      rw [q1]
      show ok (kTB N E1 E2 (fun s => f_X7_turns_2 N E1 E2 n s x1 (x2 + 1)) σ a) _
      rw [show (σ.i 53 - 1).toInt.toNat = m by omega] at q3
      have nr := cn.2.2
      rw [show (cnI σ).toNat = m + 1 by omega] at nr
      have ht : TUR σ a m := ⟨nf, hm, q3, nr, by omega⟩
      have x21 : (x2 + 1).toInt = x2.toInt + 1 := by rw [toInt_add] <;> rw [e1] <;> omega
      have nxt : ∀ R : CS, TNQ H x y X P T σ R → TIV H x y X P T B n0 b3 R → ok (f_X7_turns_2 N E1 E2 n R x1 (x2 + 1)) (fun w => Q w.2) := fun R t i => by
        refine q_turns2 hN hE hE2 hx (by omega) hB e0 e3 es eT hk n4 hx1 hQ1 hQe n R (x2 + 1) (by omega) (by omega) (fun z => ?_) i
        have := (t.2 z).2.2.1.2.2
        omega
      have sgs : sgI B ≤ sgI σ := by
        have i2 := (b5.sums hB.2).2.1
        have mo := (AMS.mono (s := σ) (n0 + 1) ((cnI σ).toNat - (n0 + 1))).2
        rw [show n0 + 1 + ((cnI σ).toNat - (n0 + 1)) = (cnI σ).toNat by omega] at mo
        omega
      have h5 : σ.o a 0 = 305 → nmI σ = (σ.o a 3).toInt := fun e => (b9 m a (by omega) (by omega) q3 e).2
      have row0 := b5 n0 (by omega)
      have r0 : σ.r 51 n0 = some a0 := row0.1.trans e0
      have o0 : σ.o a0 = B.o a0 := (row0.2 a0 e0).1
      by_cases c0 : m = n0
      · have eaa : a = a0 := by
          rw [c0, r0] at q3
          exact (Option.some.inj q3).symm
        subst c0
        subst eaa
        refine q_turnB hN hE hE2 hx (by omega) j ht h5 (by omega) (fun _ _ => ?_) (fun R t s => ?_)
        · refine ok_bind (hQe σ c j hI ht o0) (fun R hR => ?_)
          refine ok_imp (q_turnsO (by omega) (fun z => ?_)) (fun w hw => by rw [hw]; exact hR.1)
          have := hR.2 z
          refine Int32.le_iff_toInt_le.mpr ?_
          unfold cnI at this
          omega
        · have s' := s (by rw [o0]; exact es)
          refine nxt R t.1 (hI.step nf e0 e3 hm t (fun z => ?_) (fun z => ?_))
          · have := (s' z).2.2.2.1.1; omega
          · have := (s' z).2.2.2.2.1
            rw [show (cnI σ).toNat = m + 1 by omega] at this
            exact this
      · have up : n0 < m := by omega
        have n2 : ¬ σ.o a 0 = 302 := fun e => by
          obtain ⟨D, DT, KT, -, -, -, -, -, ⟨kk, k1, -, k3⟩, -⟩ := (j.2 nf).1
          have l1 := RCH.ams kk _ _ k3
          have i4 := (b5.sums hB.2).2.2.2.1
          have mo := (AMS.mono (s := σ) (n0 + 1) (m - (n0 + 1))).1
          rw [show n0 + 1 + (m - (n0 + 1)) = m by omega] at mo
          have st : AMS σ (m + 1) = AMS σ m + 1 := by
            show AMS σ m + (if σ.o (rowA σ m) 0 = 302 then 1 else 0) = _
            rw [rowA.of q3, if_pos e]
          rw [show kk = m + 1 by omega] at l1
          have l2 : (ccI σ :: T).length = T.length + 1 := rfl
          omega
        have rqm : ∀ R : CS, TNR σ R → RSQ σ R (n0 + 1) := fun R t => t.2.2.2.2.1.lo (by omega)
        have cnm : ∀ R : CS, TNR σ R → (n0 : Int) < cnI R := fun R t => by
          have := t.2.2.2.1.1; omega
        refine q_turnB hN hE hE2 hx (by omega) j ht h5 (by omega) (fun nb n5 => ?_) (fun R t _ => nxt R t.1 (hI.step nf e0 e3 hm t (fun z => cnm R (t.1.2 z).2) (fun z => rqm R (t.1.2 z).2)))
        obtain ⟨DT, KT, c1, L1, r⟩ := j.row ht
        have so : isL1 (σ.o a 0) ∨ σ.o a 0 = 300 := by
          rcases r.srt with q | q | q | q | q
          · exact absurd q nb
          · exact Or.inl q
          · exact Or.inr q
          · exact absurd q n2
          · exact absurd q n5
        refine ok_bind (q_endList (H := (H.1, rbB σ)) hN (by omega) (by omega) j.rb ht so) (fun R hR => ?_)
        have t : TRO H x y X P T σ m R.2 := TRO.mk1 hR.1 j.1 ht (fun z => (hR.2 z).elim (fun w => Or.inl w.1) (fun w => Or.inr (Or.inr w.2)))
        exact nxt R.2 t.1 (hI.step nf e0 e3 hm t (fun z => cnm _ (t.1.2 z).2) (fun z => rqm _ (t.1.2 z).2))
    · refine ok_ite (fun _ => ok_ite (fun z => absurd z.1 nf) (fun _ => ok_some (hQ1 σ hI.1 nf))) (fun _ => ?_)
      rw [if_neg nf]
      exact ok_some (hQ1 σ hI.1 nf)
