/-! both readers: a one-body row's end -/
theorem tn_end {N : Nat} (hN : 1000 ≤ N) {E1 : CS → Option (Unit × CS)} {E2 : CS → Option (Int32 × CS)} (hm1 : ∀ σ, Kf (CS.i σ 32) (E1 σ)) (hm2 : ∀ σ, Kf (CS.i σ 32) (E2 σ)) (hE2 : SXN N 22 E2) {d : Int32} {B : CS} {b : RS} {t0 n : Nat} {L : List CEL} {x : Int} {S : CS} {s U : RS} {c1 c : CEL} {R : Unit × CS} {Aj : JBA} (mA : JBM U Aj) (hC : COR d B b t0 (c1 :: c :: L) x S s) (tp : TOP S s c1) (hM : MEN c1 S s) (h36 : S.i 36 = 0 ∨ S.i 36 = 1) (bz : BAZ B b (c1 :: c :: L)) (hT : t0 ≤ ceT c1) (n203 : ¬ (S.o c1.2.1 0 = 203 ∧ S.i 43 = 204)) (e : f_X7_bodyTurn N E1 E2 S c1.2.1 = some R) (g : f_X12_parse_10 N n s = some U) : (¬ R.2.i 32 = 0 ∧ ¬ U.i 15 = 0) ∨ ∃ (m : Nat) (u : RS), f_X12_parse_10 N m u = some U ∧ POPD d B b t0 c L R.2 u ∧ JTR Aj U B b (c1 :: c :: L) S s (vws R.2 u (c :: L)) R.2 u := by
  have hM' := hM
  obtain ⟨one, o5, -⟩ := hM'
  unfold f_X7_bodyTurn at e
  obtain ⟨-, e⟩ := hf_ite e
  rw [if_neg (by rw [o5]; decide)] at e
  have e1 : f_X7_endBody N E1 E2 S c1.2.1 = some R := ob_un e
  rcases one with z | z | z | z | z | z | z
  · exact Or.inr (en_if0 mA hC tp hM z (fun y => n203 ⟨z, y⟩) bz hT e1 g)
  · exact Or.inr (en_else mA hC tp hM h36 z bz hT e1 g)
  · exact Or.inr (en_lab mA hC tp hM h36 z bz hT e1 g)
  · exact Or.inr (en_while mA hC tp hM z bz hT e1 g)
  · exact en_do hN hm1 hm2 hE2 mA hC tp hM z bz hT e1 g
  · exact Or.inr (en_for mA hC tp hM z bz hT e1 g)
  · exact Or.inr (en_row mA hC tp hM z bz hT e1 g)
