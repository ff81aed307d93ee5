/-! both readers: a list row's end -/
theorem tn_lend {N : Nat} (hN : 1000 ≤ N) {d : Int32} {B : CS} {b : RS} {t0 n : Nat} {L : List CEL} {x : Int} {S : CS} {s U : RS} {c1 c : CEL} {R : Unit × CS} {Aj : JBA} (mA : JBM U Aj) (hC : COR d B b t0 (c1 :: c :: L) x S s) (tp : TOP S s c1) (hM : MLI c1 S s ∨ MSW c1 S s) (h36 : S.i 36 = 0 ∨ S.i 36 = 1) (hs : S.o c1.2.1 0 = 301 ∨ S.o c1.2.1 0 = 218 ∨ (S.o c1.2.1 0 = 213 ∨ S.o c1.2.1 0 = 215) ∨ S.o c1.2.1 0 = 212 ∨ S.o c1.2.1 0 = 216) (k125 : S.i 43 = 125) (bz : BAZ B b (c1 :: c :: L)) (hT : t0 ≤ ceT c1) (e : f_X7_endList N S c1.2.1 = some R) (g : f_X12_parse_10 N n s = some U) : (¬ R.2.i 32 = 0 ∧ ¬ U.i 15 = 0) ∨ NDM B R.2 U ∨ (∃ (m : Nat) (u : RS), f_X12_parse_10 N m u = some U ∧ NEW d B b t0 c L R.2 u (fun V R' u' => JRW Aj U B b (vws S s (c1 :: c :: L)) S s → JRX Aj U B b V R' u')) ∨ ∃ (m : Nat) (u : RS), f_X12_parse_10 N m u = some U ∧ POPD d B b t0 c L R.2 u ∧ JTR Aj U B b (c1 :: c :: L) S s (vws R.2 u (c :: L)) R.2 u := by
  have nsw : ¬ S.o c1.2.1 0 = 218 → MLI c1 S s := fun z => hM.resolve_right (fun y => z y.1)
  rcases hs with z | z | z | z | z
  · exact Or.inr (Or.inr (Or.inr (en_block hN mA hC tp (nsw (by rw [z]; decide)) h36 z k125 bz hT e g)))
  · exact Or.inr (Or.inr (Or.inr (en_sw hN mA hC tp hM h36 z k125 bz hT e g)))
  · exact en_grd hN hC tp (nsw (by rcases z with y | y <;> rw [y] <;> decide)) h36 z k125 bz hT e g
  · exact Or.inr (Or.inr (Or.inr (en_lock hN mA hC tp (nsw (by rw [z]; decide)) h36 z k125 bz (BAZ.b38 _ bz).1 hT e g)))
  · exact Or.inr (Or.inr (Or.inr (en_fin hN hC tp (nsw (by rw [z]; decide)) h36 z k125 bz hT e g)))
