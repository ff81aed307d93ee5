/-! the class's reading: one turn, whole -/
noncomputable def kTB (N : Nat) (E1 : CS → Option (Unit × CS)) (E2 : CS → Option (Int32 × CS)) (K : CS → Option (Unit × CS)) (σ : CS) (a9 : Nat) : Option (Unit × CS) :=
  if oK σ a9 0 then (f_X5_hasOneBody N σ a9).bind fun p12 => (if p12.1 = 0 then if oK p12.2 a9 0 then (if (CS.o p12.2 a9 0) = 305 then (f_X1_found N p12.2 215).bind fun p47 => (if p47.1 = 0 then if oK p47.2 a9 0 then (if (CS.o p47.2 a9 0) = 305 then (f_X7_beginFinally N p47.2 a9).bind fun p82 => K p82.2 else (f_X1_found N p47.2 125).bind fun p54 => (if p54.1 = 0 then (f_X1_found N p54.2 0).bind fun p63 => (if p63.1 = 0 then if oK p63.2 a9 0 then (if (CS.o p63.2 a9 0) = 218 then (f_X7_groupTurn N E1 E2 p63.2 a9).bind fun p74 => K p74.2 else (f_X7_statement N E1 E2 p63.2 0).bind fun p70 => K p70.2) else none else (f_X7_endList N p63.2 a9).bind fun p78 => K p78.2) else (f_X7_endList N p54.2 a9).bind fun p59 => K p59.2)) else none else (f_X7_beginCatch N p47.2 a9).bind fun p86 => K p86.2) else (f_X1_found N p12.2 125).bind fun p19 => (if p19.1 = 0 then (f_X1_found N p19.2 0).bind fun p28 => (if p28.1 = 0 then if oK p28.2 a9 0 then (if (CS.o p28.2 a9 0) = 218 then (f_X7_groupTurn N E1 E2 p28.2 a9).bind fun p39 => K p39.2 else (f_X7_statement N E1 E2 p28.2 0).bind fun p35 => K p35.2) else none else (f_X7_endList N p28.2 a9).bind fun p43 => K p43.2) else (f_X7_endList N p19.2 a9).bind fun p24 => K p24.2)) else none else (f_X7_bodyTurn N E1 E2 p12.2 a9).bind fun p90 => K p90.2) else none
theorem kTB.eq (N : Nat) (E1 : CS → Option (Unit × CS)) (E2 : CS → Option (Int32 × CS)) (K : CS → Int32 → Int32 → Option (Unit × CS)) (σ : CS) (x1 x2 : Int32) : b_X7_turns_2 N E1 E2 K σ x1 x2 = (if 10000 ≤ x2 then (if (σ.i 32) = 0 ∧ ¬ (σ.i 53) ≤ x1 then none else some ((), σ)) else (if (σ.i 32) = 0 then (if (σ.i 53) ≤ x1 then some ((), σ) else (f_X6_row N σ ((σ.i 53) - 1)).bind fun p4 => oCase p4.1 (some ((), p4.2)) (fun a9 => kTB N E1 E2 (fun s => K s x1 (x2 + 1)) p4.2 a9)) else some ((), σ))) := rfl
theorem q_turnB {N : Nat} {H : HB} (hN : 10000000000 ≤ N) {k : Int} {E1 : CS → Option (Unit × CS)} {E2 : CS → Option (Int32 × CS)} (hE : ∀ b, EC (H.1, b) k E1) (hE2 : ∀ b, EC2 (H.1, b) k E2) {x y : Int} {c : List Nat} {X : List (Nat × List Nat)} {P : List Nat} {T : List Int} {σ : CS} {a m : Nat} (hx : x ≤ 3900) (hy : y + 3 * k ≤ 87 ∧ 0 ≤ k) (h : JJ H x y c X P (ccI σ :: T) σ) (ht : TUR σ a m) (h5 : σ.o a 0 = 305 → nmI σ = (σ.o a 3).toInt) (hk : 24 - sgI σ ≤ k) {K : CS → Option (Unit × CS)} {Q : (Unit × CS) → Prop} (hKe : ¬ isB1 (σ.o a 0) → ¬ σ.o a 0 = 305 → ok ((f_X7_endList N σ a).bind fun p => K p.2) Q) (hK : ∀ R : CS, TRO H x y X P T σ m R → ((σ.o a 0 = 300 ∨ σ.o a 0 = 302) → R.i 32 = 0 → SRL σ R) → ok (K R) Q) : ok (kTB N E1 E2 K σ a) Q := by
  obtain ⟨nf, hm, ea, nr, m4⟩ := (show TUR σ a m from ht)
  have ok0 := h.1.1.2.1 m a m4 ea
  unfold kTB
  refine ok_chk ok0 (ok_bind (q_hasOneBody ok0) (fun p hp => ?_))
  obtain ⟨p1, p2⟩ := hp
  rw [p1]
  rcases p2 with ⟨p2, p3⟩ | ⟨p2, p3⟩
  · rw [if_pos p2]
    refine ok_chk ok0 ?_
    by_cases e5 : σ.o a 0 = 305
    · rw [if_pos e5]
      have no : ¬ (σ.o a 0 = 300 ∨ σ.o a 0 = 302) := by rw [e5]; decide
      refine ok_bind (q_found σ 215) (fun q hq => ?_)
      obtain ⟨q1, q2⟩ := hq
      rw [q1]
      rcases q2 with ⟨q2, q3⟩ | ⟨q2, q3⟩
      · rw [if_pos q2]
        refine ok_chk ok0 ?_
        rw [if_pos e5]
        refine ok_bind (q_beginFin (H := (H.1, rbB σ)) (by omega) (by omega) (by omega) h.rb ht e5 (h5 e5)) (fun R hR => hK R.2 (TRO.mk1 hR.1 h.1 ht (fun z => Or.inr (Or.inl ?_))) (fun w => absurd w no))
        rw [hR.2 z]; decide
      · rw [q2, if_neg (by decide)]
        refine ok_bind (q_beginCatch (H := (H.1, rbB σ)) (by omega) (by omega) (by omega) h.rb ht e5 q3) (fun R hR => hK R.2 (TRO.mk1 hR.1 h.1 ht (fun z => Or.inr (Or.inl ?_))) (fun w => absurd w no))
        rw [hR.2 z]; decide
    · rw [if_neg e5]
      have ng : NG σ := fun i b hi e => by
        have ei : i = m := by omega
        rw [ei, ea] at e
        rw [← Option.some.inj e]; exact e5
      have g0 := h.s0g nf ng
      refine ok_bind (q_found σ 125) (fun q hq => ?_)
      obtain ⟨q1, q2⟩ := hq
      rw [q1]
      refine ok_ite (fun _ => ?_) (fun _ => hKe p3 e5)
      refine ok_bind (q_found σ 0) (fun r hr => ?_)
      obtain ⟨r1, r2⟩ := hr
      rw [r1]
      refine ok_ite (fun _ => ?_) (fun _ => hKe p3 e5)
      refine ok_chk ok0 ?_
      by_cases e8 : σ.o a 0 = 218
      · rw [if_pos e8]
        refine ok_bind (q_groupTurn (H := (H.1, rbB σ)) hN hE hE2 hx (by omega) h.rb g0 hk ht e8) (fun R hR => hK R.2 (TRO.mk1 hR.1 h.1 ht (fun z => Or.inr (Or.inl ?_))) (fun w => by rw [e8] at w; exact absurd w (by decide)))
        rcases hR.2 z with w | w
        · rw [w]; decide
        · rw [w.keep ht]; exact e5
      · rw [if_neg e8]
        refine ok_bind (q_statement (H := (H.1, rbB σ)) hN hE hE2 hx (by omega) h.rb g0 hk 0) (fun R hR => hK R.2 (TRO.mk1 (hR.tq (by omega)) h.1 ht (fun z => Or.inr (Or.inl ?_))) (fun _ z => (hR.2 z).2))
        rw [(hR.2 z).2.keep ht]; exact e5
  · rw [p2, if_neg (by decide)]
    refine ok_bind (q_bodyTurn hN hE hE2 hx (by omega) h ht p3 hk) (fun R hR => hK R.2 hR (fun w => ?_))
    exfalso
    rcases w with w | w <;> rw [w] at p3 <;> exact absurd p3 (by unfold isB1; decide)
