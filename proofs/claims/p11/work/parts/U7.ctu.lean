/-! the class's reading: one turn -/
theorem q_hasOneBody {N : Nat} {s : CS} {a : Nat} (h : oK s a 0) : ok (f_X5_hasOneBody N s a) (fun R => R.2 = s ∧ ((R.1 = 0 ∧ ¬ isB1 (s.o a 0)) ∨ (R.1 = 1 ∧ isB1 (s.o a 0)))) := by
  unfold f_X5_hasOneBody f_X5_hasOneBody_37
  refine ok_chk h (ok_bind (q_isLoop h) (fun p hp => ?_))
  obtain ⟨p1, p2⟩ := hp
  rw [p1]
  rcases p2 with ⟨p2, p3⟩ | ⟨p2, p3⟩
  · rw [if_pos p2]
    refine ok_chk h (ok_ite (fun c1 => ok_some ⟨rfl, Or.inr ⟨rfl, by rw [c1]; unfold isB1; decide⟩⟩) (fun c1 => ok_ite (fun c2 => ok_some ⟨rfl, Or.inr ⟨rfl, by rw [c2]; unfold isB1; decide⟩⟩) (fun c2 => ok_ite (fun c3 => ok_some ⟨rfl, Or.inr ⟨rfl, by rw [c3]; unfold isB1; decide⟩⟩) (fun c3 => ok_some ⟨rfl, Or.inl ⟨rfl, fun q => ?_⟩⟩))))
    unfold isLp at p3
    rcases q with q | q | q | q | q | q | q
    · exact c2 q
    · exact c3 q
    · exact p3 (Or.inl q)
    · exact p3 (Or.inr (Or.inl q))
    · exact p3 (Or.inr (Or.inr (Or.inl q)))
    · exact c1 q
    · exact p3 (Or.inr (Or.inr (Or.inr q)))
  · rw [p2, if_neg (by decide)]
    refine ok_some ⟨rfl, Or.inr ⟨rfl, ?_⟩⟩
    unfold isB1
    rcases p3 with q | q | q | q <;> rw [q] <;> decide
/-- what a turn with a row on top leaves -/
def TRO (H : HB) (x y : Int) (X : List (Nat × List Nat)) (P : List Nat) (T : List Int) (σ : CS) (m : Nat) (R : CS) : Prop := TNQ H x y X P T σ R ∧ (R.i 32 = 0 → cnI R = (m : Int) ∨ (∀ b : Nat, R.r 51 m = some b → R.o b 0 = 305 → cnI R = (m : Int) + 1 ∧ nmI R = (R.o b 3).toInt))
theorem TNQ.bk {H : HB} {x y : Int} {X : List (Nat × List Nat)} {P : List Nat} {T : List Int} {σ R : CS} (h : TNQ (H.1, rbB σ) x y X P T σ R) (hs : CBS H σ) (nf : σ.i 32 = 0) : TNQ H x y X P T σ R := by
  refine ⟨h.1.bk hs (fun _ => nf), fun z => ?_⟩
  obtain ⟨⟨c, j⟩, t⟩ := h.2 z
  exact ⟨⟨c, j.bk hs (fun _ => nf)⟩, t⟩
/-- the row on top is another, or it is none behind a try -/
theorem TRO.mk1 {H : HB} {x y : Int} {X : List (Nat × List Nat)} {P : List Nat} {T : List Int} {σ R : CS} {a m : Nat} (h : TNQ (H.1, rbB σ) x y X P T σ R) (hs : CBS H σ) (ht : TUR σ a m) (w : R.i 32 = 0 → cnI R = (m : Int) ∨ ¬ R.o a 0 = 305 ∨ (nmI R = (R.o a 3).toInt ∧ cnI R = (m : Int) + 1)) : TRO H x y X P T σ m R := by
  refine ⟨h.bk hs ht.1, fun z => ?_⟩
  have st := (h.1.st ht.2.2.2.2 ht.2.2.1).1
  rcases w z with w | w | w
  · exact Or.inl w
  · refine Or.inr (fun b eb e => ?_)
    rw [st] at eb
    rw [← Option.some.inj eb] at e
    exact absurd e w
  · refine Or.inr (fun b eb e => ?_)
    rw [st] at eb
    rw [← Option.some.inj eb]
    exact ⟨w.2, w.1⟩
theorem SRL.keep {σ R : CS} {a m : Nat} (h : SRL σ R) (ht : TUR σ a m) : R.o a 0 = σ.o a 0 := by
  have q := h.2.2.2.2.1 m (by have := ht.2.1; omega)
  rw [(q.2 a ht.2.2.1).1]
theorem SRL.cel {σ s1 R : CS} {a m : Nat} {f : Nat → Int32} {l : Int64} (h : SRL s1 R) (ou : OUV σ s1 a f l) (ht : TUR σ a m) (hr : REFS σ) (h0 : f 0 = σ.o a 0) : TNR σ R ∧ R.o a 0 = σ.o a 0 := by
  obtain ⟨nf, hm, ea, nr, m4⟩ := (show TUR σ a m from ht)
  have t2 := ou.t2 hr m4 ea
  obtain ⟨⟨u1, u2, u3, u4, u5, u6, u7, u8, u9, u10⟩, u11, u12, u13⟩ := ou
  have ecn : cnI s1 = cnI σ := by unfold cnI; rw [u10]
  have ht1 : TUR s1 a m := ⟨by rw [u10]; exact nf, by rw [ecn]; exact hm, by rw [u5]; exact ea, fun i hi => by rw [u5]; exact nr i hi, m4⟩
  have tr := h.trn (by omega)
  have i2 := (t2.1.2.sums (fun i hi => nr i (by omega))).2.1
  have em : (cnI σ).toNat = m + 1 := by omega
  have sw : SGS σ (m + 1) = SGS σ m + sgn σ a := by
    show SGS σ m + sgn σ (rowA σ m) = _
    rw [rowA.of ea]
  have sR : SGS s1 (m + 1) = SGS s1 m + sgn s1 a := by
    show SGS s1 m + sgn s1 (rowA s1 m) = _
    rw [rowA.of ht1.2.2.1]
  have sg : sgn s1 a = sgn σ a := by unfold sgn; rw [u12, h0]
  have esg : sgI s1 = sgI σ := by unfold sgI; rw [u10]
  have epl : plI s1 = plI σ := by unfold plI; rw [u10]
  have ee : eI s1 = eI σ := by unfold eI; rw [epl, u10]
  have enm : nmI s1 = nmI σ := by unfold nmI; rw [u10]
  have ecc : ccI s1 = ccI σ := by unfold ccI; rw [u10]
  obtain ⟨b0, b1, b2, ⟨b3, b4, b5, b6⟩, b7, b8, b9, b10⟩ := tr
  rw [ecn] at b3 b4 b5 b6 b7
  rw [ecn, em, sR, i2, sg, esg] at b2
  rw [enm, u9] at b8
  rw [ecc, u9] at b9
  refine ⟨⟨nf, by omega, by rw [em, sw]; exact b2, ⟨b3, b4, b5, b6⟩, ?_, b8, b9, by rw [b10, u10]⟩, by rw [h.keep ht1, u12, h0]⟩
  have e1 : (cnI σ).toNat - 1 = m := by omega
  rw [e1] at b7 ⊢
  exact t2.1.2.tr b7
theorem q_bodyTurn {N : Nat} {H : HB} (hN : 10000000000 ≤ N) {k : Int} {E1 : CS → Option (Unit × CS)} {E2 : CS → Option (Int32 × CS)} (hE : ∀ b, EC (H.1, b) k E1) (hE2 : ∀ b, EC2 (H.1, b) k E2) {x y : Int} {c : List Nat} {X : List (Nat × List Nat)} {P : List Nat} {T : List Int} {σ : CS} {a m : Nat} (hx : x ≤ 3900) (hy : y + 3 * k ≤ 87 ∧ 0 ≤ k) (h : JJ H x y c X P (ccI σ :: T) σ) (ht : TUR σ a m) (hb : isB1 (σ.o a 0)) (hk : 24 - sgI σ ≤ k) : ok (f_X7_bodyTurn N E1 E2 σ a) (fun R => TRO H x y X P T σ m R.2) := by
  obtain ⟨nf, hm, ea, nr, m4⟩ := (show TUR σ a m from ht)
  have n5 : ¬ σ.o a 0 = 305 := fun e => by
    rw [e] at hb; exact absurd hb (by unfold isB1; decide)
  unfold f_X7_bodyTurn
  refine ok_chk (h.1.1.2.1 m a m4 ea) (ok_ite (fun _ => ?_) (fun _ => ?_))
  · have j1 := (h.rb.k.fld ea m4 (fun _ => hm) 5 1 (by omega) (fun _ => Or.inr rfl)).j
    have ou := (OUV.rf σ a).o 5 1
    have u12 : (CS.setO σ a 5 1).o a 0 = σ.o a 0 := by rw [show (CS.setO σ a 5 1).o a = upd (σ.o a) 5 1 from ou.2.2.1]; rfl
    have ui : (CS.setO σ a 5 1).i = σ.i := ci_setO ..
    have ur : (CS.setO σ a 5 1).r = σ.r := cr_setO ..
    generalize CS.setO σ a 5 1 = s1 at *
    have ecc : ccI s1 = ccI σ := by unfold ccI; rw [ui]
    rw [← ecc] at j1
    have nf1 : s1.i 32 = 0 := by rw [ui]; exact nf
    have g1 := j1.s0g nf1 (fun i b hi e => by
      have ei : i = m := by
        have : cnI s1 = cnI σ := by unfold cnI; rw [ui]
        omega
      rw [ei, ur, ea] at e
      rw [← Option.some.inj e, u12]
      exact n5)
    refine ok_bind (q_statement (H := (H.1, rbB σ)) hN hE hE2 hx hy j1 g1 (by unfold sgI at *; rw [ui]; exact hk) 1) (fun R hR => ok_some ?_)
    refine TRO.mk1 ⟨hR.1, fun z => ?_⟩ h.1 ht (fun z => Or.inr (Or.inl ?_))
    · obtain ⟨⟨c', jc⟩, sr⟩ := hR.2 z
      have e2 : ccI R.2 = ccI s1 := by unfold ccI; rw [sr.2.2.2.2.2.2.2.2.1]
      exact ⟨⟨c', by rw [e2]; exact jc⟩, (sr.cel ou ht h.1.1 rfl).1⟩
    · rw [((hR.2 z).2.cel ou ht h.1.1 rfl).2]; exact n5
  · refine ok_bind (q_endBody (H := (H.1, rbB σ)) hN hE2 (by omega) hy h.rb ht hb hk) (fun R hR => ok_some ?_)
    refine TRO.mk1 hR.1 h.1 ht (fun z => (hR.2 z).elim Or.inl (fun e => Or.inr (Or.inl ?_)))
    rw [e]; decide
