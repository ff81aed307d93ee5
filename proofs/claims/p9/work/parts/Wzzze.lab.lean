/-! both readers: a label's end -/
/-- the last step of a body's end -/
theorem en_pop {N : Nat} {E1 : CS → Option (Unit × CS)} {E2 : CS → Option (Int32 × CS)} {d : Int32} {B : CS} {b : RS} {t0 : Nat} {L : List CEL} {S P : CS} {q q' V : RS} {c1 c : CEL} {v : Int32} {R : Unit × CS} (hE : COR d B b t0 (c :: L) (-9) S q) (eo1 : P.o c1.2.1 = S.o c1.2.1) (tp : TOP S q c1) (ts : tpI q = (ceT c1 : Int)) (hm : NMC c1 S) (one : isOne (S.o c1.2.1 0)) (n7 : ¬ S.o c1.2.1 0 = 207) (n4 : ¬ S.o c1.2.1 0 = 304) (na : isGo (S.o c1.2.1 0) → ¬ q.a 44 (ceG c1) = 3) (bz : BAZ B b (c1 :: c :: L)) (hT : t0 ≤ ceT c1) (t9 : ceT c1 < 1000) (lk : LNK S c1 c) (lw : LOW S q c) (a1 : ENV d P q) (a2 : CKX S P) (hv1 : v = 0 ∨ v = 1) (ho : f_X12_over N q' v = some V) (hq : (∀ k : Nat, k ≠ 43 → q'.i k = q.i k) ∧ q'.l = q.l ∧ q'.a = q.a ∧ q'.b = q.b) (q43 : (q'.i 43).toInt = (q.i 43).toInt - (nGo (S.o c1.2.1 0) : Int)) (e193 : f_X7_endBody_193 N E1 E2 (CS.setI P 36 v) c1.2.1 = some R) : POPD d B b t0 c L R.2 V := by
  have hinq : INL S q (ceT c1) (c :: L) := by
    have z := STK.inl L c _ _ _ hE.2.1 (by have := tp.1; have := lk.1; omega) (by have := tp.2.1; have := lk.2.2.1; omega) (by have := tp.2.2; have := lk.2.2.2.1; omega)
    rw [← lk.2.1] at z
    exact z
  have eoc := (hinq.o a2.z c List.mem_cons_self).1
  have hEp := hE.cx hinq hT a1 a2
  have tpq : TOP P q c1 := ⟨by rw [a2.1.2.2.2.2.1]; exact tp.1, by rw [eo1]; exact tp.2.1, by rw [eo1]; exact tp.2.2⟩
  have lkp : LNK P c1 c := by
    unfold LNK at *
    rw [eo1, eoc]
    exact lk
  have lwp : LOW P q c := by
    unfold LOW at *
    rw [eoc]
    exact lw
  exact (pop_one hEp tpq lkp lwp bz hT t9 ts (by
    unfold NMC at *
    rw [eo1, a2.1.2.2.2.1]
    exact hm) (by rw [eo1]; exact one) (by rw [eo1]; exact n7) (by rw [eo1]; exact n4) (fun z => by rw [eo1] at z; exact na z) hv1 ho hq (by rw [eo1]; exact q43) e193).1
theorem TOP.e22 {F : Nat → Prop} {S : CS} {s q : RS} {c : CEL} (h : TOP S s c) (e : E22 F s q) : TOP S q c := by
  unfold TOP at *
  rw [e.1]
  exact h
set_option maxHeartbeats 1000000 in
theorem en_lab {N : Nat} {E1 : CS → Option (Unit × CS)} {E2 : CS → Option (Int32 × CS)} {d : Int32} {B : CS} {b : RS} {t0 n : Nat} {L : List CEL} {x : Int} {S : CS} {s U : RS} {c1 c : CEL} {R : Unit × CS} (hC : COR d B b t0 (c1 :: c :: L) x S s) (tp : TOP S s c1) (hM : MEN c1 S s) (h36 : S.i 36 = 0 ∨ S.i 36 = 1) (h303 : S.o c1.2.1 0 = 303) (bz : BAZ B b (c1 :: c :: L)) (hT : t0 ≤ ceT c1) (e : f_X7_endBody N E1 E2 S c1.2.1 = some R) (g : f_X12_parse_10 N n s = some U) : ∃ (m : Nat) (u : RS), f_X12_parse_10 N m u = some U ∧ POPD d B b t0 c L R.2 u := by
  obtain ⟨one, o5, ts, h75, hm⟩ := hM
  obtain ⟨m1, e1, k1, m2, e2, k2, cst⟩ := STK.mem _ _ _ _ hC.2.1 c1 List.mem_cons_self
  obtain ⟨f1, f2, f3, f4, f5⟩ := cst.2.2.1.2.2.2.1 h303
  have hv := hC.1
  have go : isGo (S.o c1.2.1 0) := Or.inl h303
  -- the reference
  obtain ⟨m2, V, hV, g2⟩ := rl_5 g ts hv.1.2.1 f1
  unfold f_X12_named at hV
  obtain ⟨hib, hV⟩ := hf_ite hV
  have t9 : ceT c1 < 1000 := by
    have h2 : (s.i 63).toInt = (ceT c1 : Int) := ts
    have := hib.2
    omega
  have g66 : (s.a 66 (ceT c1)).toNatClampNeg = ceG c1 := by
    show (s.a 66 (ceT c1)).toInt.toNat = ceG c1
    omega
  rw [tp_nat ts, if_pos f2, g66] at hV
  obtain ⟨-, hV⟩ := hf_ite hV
  obtain ⟨q, hq, hV⟩ := hf_bind hV
  -- the chain
  obtain ⟨hD, inj, ord, lk, lw⟩ := hC.drop (by rw [h303]; unfold isTy; decide) (by rw [h303]; decide) (by rw [h303]; rfl) (by rw [h303]; rfl)
  obtain ⟨-, -, b0, col, hc⟩ := id hC.2.2.2.2.2.2.2.2.2.2
  have hx := (hc.2.2.1 c1 List.mem_cons_self go).1
  have e22 := pt_in (F := FRE S s (c :: L) (cdr (ceG c1) col) (b.i 20).toInt) (κ := (ceG c1, true)) hc (fun k hk => (hc.fre b0).1 k true hk) hx hq
  obtain ⟨hE, -⟩ := hD.e22 (hc.drop inj) e22
  have q75 : q.i 75 = S.i 36 := by rw [e22.1]; exact h75
  have q50 : q.a 50 = s.a 50 := e22.2.2.2.1 50 (by decide)
  -- the class
  unfold f_X7_endBody at e
  obtain ⟨-, e⟩ := hf_ite e
  rw [if_neg (by rw [h303]; decide), if_neg (by rw [h303]; decide), if_neg (by rw [h303]; decide), if_pos h303] at e
  obtain ⟨p, ep, e⟩ := hf_bind e
  obtain ⟨a1, a2, -, -⟩ := y_aim hv ep
  have hin := hC.inl tp (T := ceT c1 + wid (S.o c1.2.1 0)) rfl
  have hCp := hC.cx hin (by omega) a1 a2
  have eo : ∀ y ∈ c1 :: c :: L, p.2.o y.2.1 = S.o y.2.1 := fun y hy => (hin.o a2.z y hy).1
  have p36 : p.2.i 36 = S.i 36 := a2.1.2.1
  have eo1 := eo c1 List.mem_cons_self
  -- flags
  have fin : ∃ v : Int32, (v = 0 ∨ v = 1) ∧ f_X12_over N (RS.setI q 43 (q.i 43 - 1)) v = some V ∧ f_X7_endBody_193 N E1 E2 (CS.setI p.2 36 v) c1.2.1 = some R := by
    rw [q75, q50] at hV
    rw [p36] at e
    by_cases z : S.i 36 = 0
    · rw [if_pos z] at hV e
      obtain ⟨p31, e31, e⟩ := hf_bind e
      obtain ⟨y1, y2⟩ := y_gone hCp (by rw [eo1]; exact go) (Or.inl ⟨rfl, rfl⟩) e31
      have y3 : p31.1 = s.a 50 (ceG c1) := y2.trans (if_pos rfl)
      rw [y1, y3] at e
      by_cases k : s.a 50 (ceG c1) = 0
      · rw [if_pos k] at hV e
        rw [ob_id] at hV
        exact ⟨0, Or.inl rfl, hV, e⟩
      · rw [if_neg k] at hV e
        rw [ob_id] at hV
        exact ⟨1, Or.inr rfl, hV, e⟩
    · rw [if_neg z] at hV e
      rw [ob_id] at hV
      exact ⟨1, Or.inr rfl, hV, e⟩
  obtain ⟨v, hv1, ho, e193⟩ := fin
  -- the row goes
  have ng : nGo (S.o c1.2.1 0) = 1 := nGo1 go
  have q43 : q.i 43 = s.i 43 := by rw [e22.1]
  have g43 : (q.i 43 - 1).toInt = (q.i 43).toInt - 1 := by
    have e1 : (1 : Int32).toInt = 1 := by decide
    have hi := Int32.toInt_lt (q.i 43)
    have := tp.2.1
    rw [← q43] at this
    rw [toInt_sub] <;> rw [e1] <;> omega
  exact ⟨m2, V, g2, en_pop hE eo1 (tp.e22 e22) (by show (q.i 63).toInt = _; rw [e22.1]; exact ts) hm one (by rw [h303]; decide) (by rw [h303]; decide) (fun _ => by rw [e22.2.2.2.1 44 (by decide), f4]; decide) bz hT t9 lk (lw.e22 e22) (a1.e22 e22) a2 hv1 ho ⟨fun k hk => if_neg hk, rfl, rfl, rfl⟩ (by rw [ng]; exact g43) e193⟩
