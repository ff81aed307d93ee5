/-! both readers: the loop of turns -/
theorem STI.nf {d : Int32} {B : CS} {b : RS} {t0 : Nat} {S : CS} {s : RS} {c : CEL} {L : List CEL} {Aj : JBA} {U : RS} (h : STI Aj U d B b t0 S s c L) : S.i 32 = 0 ∧ (S.i 53).toInt = (c.1 : Int) + 1 ∧ c.1 < 400 ∧ S.r 51 c.1 = some c.2.1 ∧ (B.i 53).toInt ≤ (c.1 : Int) + 1 := by
  obtain ⟨x, hC, tp, -, bz, -, -, -⟩ := h
  have t1 := tp.1
  obtain ⟨m', e', k', g1, -, -⟩ := id hC.2.1
  obtain ⟨-, -, -, r4, -⟩ := BAZ.all hC.2.2.2.2.1 L c _ _ _ bz hC.2.1 (by omega)
  exact ⟨hC.1.1.1, t1, g1.2.1, g1.1, r4⟩
/-- all turns: both fault, or the base's row has ended -/
theorem tn_loop {N : Nat} (hN : 1000 ≤ N) {E1 : CS → Option (Unit × CS)} {E2 : CS → Option (Int32 × CS)} (hm1 : ∀ σ, Kf (CS.i σ 32) (E1 σ)) (hm2 : ∀ σ, Kf (CS.i σ 32) (E2 σ)) (hE : SXR N 18 E1) (hE2 : SXN N 22 E2) {d : Int32} {B : CS} {b : RS} {t0 n0 : Nat} {x1 : Int32} {U : RS} {Q : CS → Prop} {Aj : JBA} (hY : YBA Aj U B b) (mA : JBM U Aj) (hU : KU3 U b) (hx1 : x1.toInt = (n0 : Int)) (hB : (B.i 53).toInt = (n0 : Int) + 1)
    (hQ : ∀ (S : CS) (s : RS) (c : CEL) (m : Nat) (P : Unit × CS), STI Aj U d B b t0 S s c [] → (S.i 43 = 125 ∨ S.i 43 = 0 ∨ S.i 43 = 219 ∨ S.i 43 = 220) → KTN N E1 E2 S c.2.1 P → f_X12_parse_10 N m s = some U → (¬ P.2.i 32 = 0 ∧ ¬ U.i 15 = 0) ∨ ((¬ P.2.i 32 = 0 ∨ (P.2.i 53).toInt ≤ (n0 : Int)) ∧ Q P.2)) :
    ∀ (n : Nat) (S : CS) (x2 : Int32) (R : Unit × CS), f_X7_turns_2 N E1 E2 n S x1 x2 = some R → ((∃ (m : Nat) (s : RS) (c : CEL) (L : List CEL), f_X12_parse_10 N m s = some U ∧ STI Aj U d B b t0 S s c L) ∨ DMD d B S U ∨ NDM B S U) → (¬ R.2.i 32 = 0 ∧ ¬ U.i 15 = 0) ∨ Q R.2
  | 0, _, _, _, h, _ => by cases h
  | n + 1, S, x2, R, h, hI => by
    have go : ∀ P : Unit × CS, f_X7_turns_2 N E1 E2 n P.2 x1 (x2 + 1) = some R → TOU Aj N d B b t0 P.2 U → (¬ R.2.i 32 = 0 ∧ ¬ U.i 15 = 0) ∨ Q R.2 := fun P h2 z => by
      rcases z with z | z | z | ⟨m, u, c, L, g, z⟩
      · rw [tn_stop h2 (Or.inl z.1)]
        exact Or.inl z
      · exact tn_loop hN hm1 hm2 hE hE2 hY mA hU hx1 hB hQ n P.2 (x2 + 1) R h2 (Or.inr (Or.inl z))
      · exact tn_loop hN hm1 hm2 hE hE2 hY mA hU hx1 hB hQ n P.2 (x2 + 1) R h2 (Or.inr (Or.inr z))
      · exact tn_loop hN hm1 hm2 hE hE2 hY mA hU hx1 hB hQ n P.2 (x2 + 1) R h2 (Or.inl ⟨m, u, c, L, g, z⟩)
    rcases hI with ⟨m, s, c, L, g, hS⟩ | hD | hD
    · obtain ⟨nf, h53, m4, ea, r4⟩ := hS.nf
      obtain ⟨P, k, h2⟩ := tn_step h nf (by omega) h53 m4 ea
      by_cases z : L = [] ∧ (S.i 43 = 125 ∨ S.i 43 = 0 ∨ S.i 43 = 219 ∨ S.i 43 = 220)
      · rw [z.1] at hS
        rcases hQ S s c m P hS z.2 k g with w | ⟨w, q⟩
        · rw [tn_stop h2 (Or.inl w.1)]
          exact Or.inl w
        · rw [tn_stop h2 (w.elim Or.inl (fun y => Or.inr (by omega)))]
          exact Or.inr q
      · exact go P h2 (tn_one hN hm1 hm2 hE hE2 hY mA hU hS (fun q => ⟨fun y => z ⟨q, Or.inl y⟩, fun y => z ⟨q, Or.inr (Or.inl y)⟩, fun y => z ⟨q, Or.inr (Or.inr (Or.inl y))⟩, fun y => z ⟨q, Or.inr (Or.inr (Or.inr y))⟩⟩) k g)
    · obtain ⟨u15, ⟨u, ev, -⟩, -, a, m, h53, ⟨m38, mb⟩, ea, -, -⟩ := id hD
      obtain ⟨P, k, h2⟩ := tn_step h ev.1.1 (by omega) h53 (by omega) ea
      have z := dm_step hD h53 ea k
      rw [tn_stop h2 (Or.inl z)]
      exact Or.inl ⟨z, u15⟩
    · obtain ⟨u15, n1, hn1, hN1⟩ := hD
      obtain ⟨nf, t6, ⟨l1, l2⟩, rows⟩ := id hN1
      obtain ⟨m, hm⟩ : ∃ m : Nat, (S.i 53).toInt = (m : Int) + 1 := ⟨((S.i 53).toInt - 1).toNat, by omega⟩
      obtain ⟨a, ea, -⟩ := rows m (by omega) (by omega)
      obtain ⟨P, k, h2⟩ := tn_step h nf (by omega) hm (by omega) ea
      rcases nd_step hm1 hm2 hN1 hm ea k with z | z
      · rw [tn_stop h2 (Or.inl z)]
        exact Or.inl ⟨z, u15⟩
      · exact go P h2 (Or.inr (Or.inr (Or.inl ⟨u15, n1, hn1, z⟩)))
