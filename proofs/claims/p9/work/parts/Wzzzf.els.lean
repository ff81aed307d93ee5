/-! both readers: an else's end -/
set_option maxHeartbeats 1000000 in
theorem en_else {N : Nat} {E1 : CS → Option (Unit × CS)} {E2 : CS → Option (Int32 × CS)} {d : Int32} {B : CS} {b : RS} {t0 n : Nat} {L : List CEL} {x : Int} {S : CS} {s U : RS} {c1 c : CEL} {R : Unit × CS} (hC : COR d B b t0 (c1 :: c :: L) x S s) (tp : TOP S s c1) (hM : MEN c1 S s) (h36 : S.i 36 = 0 ∨ S.i 36 = 1) (h204 : S.o c1.2.1 0 = 204) (bz : BAZ B b (c1 :: c :: L)) (hT : t0 ≤ ceT c1) (e : f_X7_endBody N E1 E2 S c1.2.1 = some R) (g : f_X12_parse_10 N n s = some U) : ∃ (m : Nat) (u : RS), f_X12_parse_10 N m u = some U ∧ POPD d B b t0 c L R.2 u := by
  obtain ⟨one, o5, ts, h75, hm⟩ := hM
  obtain ⟨m1, e1, k1, m2, e2, k2, cst⟩ := STK.mem _ _ _ _ hC.2.1 c1 List.mem_cons_self
  obtain ⟨f1, f2, f3, f4⟩ := cst.2.2.1.2.2.2.2.2.1 h204
  have hv := hC.1
  have ngo : ¬ isGo (S.o c1.2.1 0) := by
    rw [h204]
    unfold isGo
    decide
  obtain ⟨m2, V, hV, g2⟩ := rl_9 g ts hv.1.2.1 f1
  unfold f_X12_branch at hV
  obtain ⟨hib, hV⟩ := hf_ite hV
  have t9 : ceT c1 < 1000 := by
    have h2 : (s.i 63).toInt = (ceT c1 : Int) := ts
    have := hib.2
    omega
  rw [tp_nat ts, f2, if_neg (by decide), if_neg (by decide), if_neg (by decide)] at hV
  obtain ⟨-, hV⟩ := hf_ite hV
  obtain ⟨hD, inj, ord, lk, lw⟩ := hC.drop (by rw [h204]; unfold isTy; decide) (by rw [h204]; decide) (by rw [h204]; rfl) (by rw [h204]; rfl)
  obtain ⟨-, -, b0, col, hc⟩ := id hC.2.2.2.2.2.2.2.2.2.2
  have fr : FRE S s (c :: L) (cdr (ceG c1) col) (b.i 20).toInt (s.a 68 (ceT c1)).toNatClampNeg := (hc.fre b0).2 _ (Or.inr (Or.inl ⟨h204, rfl⟩))
  have e22 := E22.set (s := s) (v := s.i 20) fr
  obtain ⟨hE, -⟩ := hD.e22 (hc.drop inj) e22
  unfold f_X7_endBody at e
  obtain ⟨-, e⟩ := hf_ite e
  rw [if_neg (by rw [h204]; decide), if_pos h204] at e
  obtain ⟨p, ep, e⟩ := hf_bind e
  obtain ⟨a1, a2, -, -⟩ := y_aim hv ep
  have hin := hC.inl tp (T := ceT c1 + wid (S.o c1.2.1 0)) rfl
  have eo1 := (hin.o a2.z c1 List.mem_cons_self).1
  have p36 : p.2.i 36 = S.i 36 := a2.1.2.1
  obtain ⟨q, hq⟩ : ∃ q, q = RS.setA s 22 (s.a 68 (ceT c1)).toNatClampNeg (s.i 20) := ⟨_, rfl⟩
  rw [← hq] at hV e22 hE
  clear hq
  have fin : ∃ v : Int32, (v = 0 ∨ v = 1) ∧ f_X12_over N q v = some V ∧ f_X7_endBody_193 N E1 E2 (CS.setI p.2 36 v) c1.2.1 = some R := by
    rw [h75, f3] at hV
    rw [p36] at e
    by_cases z : S.i 36 = 0
    · rw [if_pos z] at hV e
      obtain ⟨-, e⟩ := hf_ite e
      rw [eo1] at e
      rcases f4 with k | k
      · rw [if_pos k] at e
        rw [if_neg (by rw [k]; decide), ob_id] at hV
        exact ⟨0, Or.inl rfl, hV, e⟩
      · rw [if_neg (by rw [k]; decide)] at e
        rw [if_pos k, ob_id] at hV
        exact ⟨1, Or.inr rfl, hV, e⟩
    · rw [if_neg z] at hV e
      rw [ob_id] at hV
      exact ⟨1, Or.inr rfl, hV, e⟩
  obtain ⟨v, hv1, ho, e193⟩ := fin
  exact ⟨m2, V, g2, en_pop hE eo1 (tp.e22 e22) (by show (q.i 63).toInt = _; rw [e22.1]; exact ts) hm one (by rw [h204]; decide) (by rw [h204]; decide) (fun z => absurd z ngo) bz hT t9 lk (lw.e22 e22) (a1.e22 e22) a2 hv1 ho ⟨fun _ _ => rfl, rfl, rfl, rfl⟩ (by rw [nGo.eq ngo]; omega) e193⟩
