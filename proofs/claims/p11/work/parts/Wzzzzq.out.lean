/-! both readers: what comes of a statement -/
/-- a statement is done: the row on top goes on -/
theorem OUTS.pop {N : Nat} {d : Int32} {B : CS} {b : RS} {t0 T : Nat} {c : CEL} {L : List CEL} {x : Int} {R : CS} {U : RS} {J : List RVW → CS → RS → Prop} (h : OUTS N d B b t0 T c L x R U J) : (¬ R.i 32 = 0 ∧ ¬ U.i 15 = 0) ∨ DMD d B R U ∨ (∃ (m : Nat) (u : RS), f_X12_parse_10 N m u = some U ∧ NEW d B b t0 c L R u J) ∨ ∃ (m : Nat) (u : RS), f_X12_parse_10 N m u = some U ∧ POPD d B b t0 c L R u ∧ J (vws R u (c :: L)) R u := by
  rcases h with z | z | z | ⟨m, u, g, ⟨⟨cR, tR, lR, tu, ⟨h75, h36⟩, hT⟩, hm⟩, hj⟩
  · exact Or.inl z
  · exact Or.inr (Or.inl z)
  · exact Or.inr (Or.inr (Or.inl z))
  · refine Or.inr (Or.inr (Or.inr ⟨m, u, g, ⟨?_, tR, MOD.rt lR ?_ h75 h36 hm⟩, hj⟩))
    · obtain ⟨h1, h2, h3, h4, h5, h6, h7, h8, h9, h10, h11⟩ := cR
      exact ⟨h1, h2, h3, LBC.any _ _ h4, h5, h6, h7, h8, h9, h10, h11⟩
    · rw [tu, hT]
      have := wid1 (R.o c.2.1 0)
      omega
/-- a one-body row's body begins -/
theorem tn_body {N : Nat} (hN : 1000 ≤ N) {E1 : CS → Option (Unit × CS)} {E2 : CS → Option (Int32 × CS)} (hm1 : ∀ σ, Kf (CS.i σ 32) (E1 σ)) (hm2 : ∀ σ, Kf (CS.i σ 32) (E2 σ)) (hE : SXR N 18 E1) (hE2 : SXN N 22 E2) {d : Int32} {B : CS} {b : RS} {t0 n : Nat} {L : List CEL} {x : Int} {S : CS} {s U : RS} {c1 c : CEL} {R : Unit × CS} {Aj : JBA} (hY : YBA Aj U B b) (hC : COR d B b t0 (c1 :: c :: L) (cod c1 S s) S s) (tp : TOP S s c1) (hM : MBO c1 S s) (bz : BAZ B b (c1 :: c :: L)) (hT : t0 ≤ ceT c1) (e : f_X7_bodyTurn N E1 E2 S c1.2.1 = some R) (g : f_X12_parse_10 N n s = some U) : OUTS N d B b t0 (ceT c1 + 1) c1 (c :: L) (cod c1 S s) R.2 U (JTR Aj U B b (c1 :: c :: L) S s) := by
  obtain ⟨one, o5, ts, h64, h65, h36, ⟨n410, n411⟩, hm⟩ := hM
  have hv := hC.1
  unfold f_X7_bodyTurn at e
  obtain ⟨-, e⟩ := hf_ite e
  rw [if_pos o5] at e
  have e1 : f_X7_statement N E1 E2 (CS.setO S c1.2.1 5 1) 1 = some R := ob_un e
  unfold f_X7_statement at e1
  have e2 : f_X7_statement_18 N E1 E2 (CS.setO S c1.2.1 5 1) 1 = some R := (if_neg (show ¬ (CS.setO S c1.2.1 5 1).i 36 = 0 from fun z => by
    have z' : S.i 36 = 0 := z
    rw [h36] at z'
    exact absurd z' (by decide))).symm.trans e1
  clear e e1
  have wd := wid.one one
  obtain ⟨W, hW⟩ : ∃ W, W = CS.setO S c1.2.1 5 1 := ⟨_, rfl⟩
  have Wi : W.i = S.i := by rw [hW]; rfl
  have Wa : W.a = S.a := by rw [hW]; rfl
  have Wr : W.r = S.r ∧ W.ol = S.ol := by rw [hW]; exact ⟨rfl, rfl⟩
  have Wo : ∀ a : Nat, a ≠ c1.2.1 → W.o a = S.o a := fun a ha => by rw [hW, so_ne ha]
  have Wk : ∀ k : Nat, k ≠ 5 → W.o c1.2.1 k = S.o c1.2.1 k := fun k hk => by rw [hW, so_nk hk]
  have W5 : W.o c1.2.1 5 = 1 := by rw [hW, so_at]
  have evW : ENV d W s := by rw [hW]; exact hv.so (by decide)
  have hWe := hW
  rw [← hW] at e2
  clear hW
  have adr := hC.adr
  have hb := hC.b53 tp bz
  have eko : ∀ k : Nat, k ≠ 5 → ∀ a : Nat, W.o a k = S.o a k := fun k k1 a => by
    by_cases z : a = c1.2.1
    · rw [z]
      exact Wk k k1
    · rw [Wo a z]
  have e0 := eko 0 (by decide)
  have e3 := eko 3 (by decide)
  have eoL : ∀ y ∈ c :: L, W.o y.2.1 = S.o y.2.1 := fun y hy => Wo y.2.1 (adr y hy)
  obtain ⟨h1, h2, h3, h4, h5, h6, ⟨h10, h11, h12, hsg⟩, h13, h14, h17, ⟨h18, h19, h20, col, h21⟩⟩ := hC
  have h2' := h2
  obtain ⟨m', e', k', c1s, lkl, stl⟩ := h2'
  obtain ⟨lk, lw⟩ := lkl c rfl
  obtain ⟨d1, d2⟩ := DSM.eq (c :: L) eoL
  have st : STK W s (c1 :: c :: L) (S.i 22).toInt (s.i 24).toInt (s.i 33).toInt := by
    refine STK.push (STK.eo (S := S) (R := W) Wr.1 (by rw [Wa]) (c :: L) _ _ _ (fun y hy => ⟨eoL y hy, by rw [Wr.2]⟩) stl) ?_ ?_ ?_
    · unfold CST RFR CSM at c1s ⊢
      rw [Wr.1, Wr.2, Wa, Wk 0 (by decide), Wk 3 (by decide), Wk 6 (by decide), Wk 7 (by decide), Wk 8 (by decide), Wk 11 (by decide), Wk 12 (by decide), Wk 13 (by decide)]
      exact c1s
    · unfold LNK at *
      rw [Wk 0 (by decide), Wk 1 (by decide), Wk 3 (by decide), Wk 14 (by decide), eoL c List.mem_cons_self]
      exact lk
    · unfold LOW at *
      rw [eoL c List.mem_cons_self]
      exact lw
  have jq : JMQ W s (c1 :: c :: L) (b.i 59).toInt (b.i 29).toInt := h3.eqv e0 (eko 1 (by decide)) (eko 14 (by decide)) (eko 15 (by decide)) (by rw [Wi]) (by rw [Wi]) (by rw [Wa]) rfl rfl rfl rfl rfl rfl (fun _ _ => rfl)
  have pd : PDM W (c1 :: c :: L) = PDM S (c1 :: c :: L) := by
    have z1 : PDM W (c1 :: c :: L) = dbt (W.o c1.2.1 0) + PDM W (c :: L) := rfl
    have z2 : PDM S (c1 :: c :: L) = dbt (S.o c1.2.1 0) + PDM S (c :: L) := rfl
    rw [z1, z2, e0, d2]
  have ds : DSM W (c1 :: c :: L) = DSM S (c1 :: c :: L) := by
    have z1 : DSM W (c1 :: c :: L) = (nDp (W.o c1.2.1 0) : Int) + DSM W (c :: L) := rfl
    have z2 : DSM S (c1 :: c :: L) = (nDp (S.o c1.2.1 0) : Int) + DSM S (c :: L) := rfl
    rw [z1, z2, e0, d1]
  have cW : COR d B b t0 (c1 :: c :: L) (cod c1 S s) W s := by
    refine ⟨evW, by rw [Wi]; exact st, jq, ?_, ?_, h6, ⟨h10, by rw [pd]; exact h11, h12, by rw [SSM.eq (c1 :: c :: L) (fun y _ => e0 y.2.1)]; exact hsg⟩, ⟨by rw [Wi, ds]; exact h13.1, fun y hy => by rw [e3, Wi]; exact h13.2.1 y hy, fun y hy z hz l => by rw [e3, e3]; exact h13.2.2.1 y hy z hz l, ?_, fun y hy => by rw [e0]; exact h13.2.2.2.2 y hy⟩, by rw [Wi]; exact h14, ?_, h18, h19, h20, col, ?_⟩
    · unfold LBC at h4 ⊢
      rw [e0]
      by_cases z : S.o c1.2.1 0 = 303
      · rw [if_pos z] at h4 ⊢
        exact ⟨h4.1, LBC.mv (c :: L) _ h4.2 eoL (fun _ _ _ => rfl)⟩
      · rw [if_neg z] at h4 ⊢
        by_cases y : S.o c1.2.1 0 = 205 ∨ S.o c1.2.1 0 = 206 ∨ S.o c1.2.1 0 = 207 ∨ S.o c1.2.1 0 = 304
        · rw [if_pos y] at h4 ⊢
          exact LBC.mv (c :: L) _ h4 eoL (fun _ _ _ => rfl)
        · rw [if_neg y] at h4 ⊢
          exact LBC.mv (c :: L) _ h4 eoL (fun _ _ _ => rfl)
    · obtain ⟨b1, b2, b3, b4, b5, b6, b7, b8, b9, b10, b11⟩ := h5
      refine ⟨fun k hk => by rw [Wr.1]; exact b1 k hk, fun k a hk ha => ?_, by rw [Wi]; exact b3, by rw [Wi]; exact b4, fun k hk => by rw [Wa]; exact b5 k hk, by rw [Wi]; exact b6, by rw [Wi]; exact b7, fun k hk => by rw [Wa]; exact b8 k hk, fun k q1 q2 => by rw [Wa]; rw [Wi] at q2; exact b9 k q1 q2, ?_, by rw [Wi]; exact b11⟩
      · have z := b2 k a hk ha
        have e := Wo a (fun w => by
          rw [w] at ha
          have := h1.ri.2.1 k c1.1 c1.2.1 (by have := c1s.2.1; omega) c1s.2.1 ((b1 k hk).trans ha) c1s.1
          omega)
        exact ⟨e.trans z.1, by rw [Wr.2]; exact z.2⟩
      · unfold RTE at *
        rw [Wi]
        exact b10
    · have z := h13.2.2.2.1
      have w1 : cfl S (c1 :: c :: L) (S.i 22).toInt = cfl S (c :: L) (if S.o c1.2.1 0 = 218 then (S.o c1.2.1 13).toInt else (S.i 22).toInt) := rfl
      have w2 : cfl W (c1 :: c :: L) (W.i 22).toInt = cfl W (c :: L) (if W.o c1.2.1 0 = 218 then (W.o c1.2.1 13).toInt else (W.i 22).toInt) := rfl
      rw [w1] at z
      rw [w2, e0, Wk 13 (by decide), Wi, cfl.eq (c :: L) _ eoL]
      exact z
    · unfold IAR at *
      rw [Wi, Wr.1]
      exact h17
    · unfold COL PLF at *
      simp only [e0]
      exact h21
  have tpW : TOP W s c1 := ⟨by rw [Wi]; exact tp.1, by rw [e0]; exact tp.2.1, by rw [e0]; exact tp.2.2⟩
  have oneW : isOne (W.o c1.2.1 0) := by rw [e0]; exact one
  have n305 : ¬ S.o c1.2.1 0 = 305 := fun z => by
    rw [z] at one
    unfold isOne at one
    exact absurd one (by decide)
  have n218 : ¬ S.o c1.2.1 0 = 218 := fun z => by
    rw [z] at one
    unfold isOne at one
    exact absurd one (by decide)
  have lwW : LOW W s c1 := ⟨by rw [e0]; exact n305, fun z => absurd (by rw [← e0]; exact z) n218, fun z => absurd oneW z, fun _ => W5⟩
  have t53 := tpW.1
  obtain ⟨r1, r2, r3, r4, r5⟩ := BAZ.all cW.2.2.2.2.1 (c :: L) c1 _ _ _ bz cW.2.1 (by omega)
  refine OUTS.mj (st_any hN hm1 hm2 hE hE2 hY cW ⟨tpW, lwW, by rw [e0, wd], ts, h64, h65⟩ (by omega) (fun z1 z2 z3 => ?_) (fun z => ?_) r1 r2 r3 (fun _ => ⟨n410, n411⟩) (Or.inr oneW) e2 g) (fun V' R' u' h ku jw => h ku ?_)
  · rw [e0] at z1 z2 z3
    rw [Wi, Wk 3 (by decide)]
    exact hm z1 z2 z3
  · rw [e0] at z
    unfold cod
    exact if_pos ⟨z, o5⟩
  · have veq : vws W s (c1 :: c :: L) = vws S s (c1 :: c :: L) := by
      have e1 : vw W s c1 = vw S s c1 := by
        have z : ∀ k : Nat, (vw W s c1).1 k = (vw S s c1).1 k := fun k => by
          show (if k = 5 then 0 else W.o c1.2.1 k) = (if k = 5 then 0 else S.o c1.2.1 k)
          by_cases q : k = 5
          · rw [if_pos q, if_pos q]
          · rw [if_neg q, if_neg q, Wk k q]
        exact Prod.ext (funext z) (by
          show (_, _) = (_, _)
          rw [Wk 3 (by decide)])
      show vw W s c1 :: vws W s (c :: L) = vw S s c1 :: vws S s (c :: L)
      rw [e1, vws.eq (T := ceT c1 + 1) (fun _ _ => rfl) (c :: L) (fun y hy => cW.o3 y (List.mem_cons_of_mem _ hy) |> fun z => by rw [e3] at z; exact z) eoL (fun _ _ => ⟨rfl, rfl, rfl, rfl, rfl, rfl, rfl, rfl, rfl, rfl, rfl⟩) (fun y hy => by
        have z1 := (cW.iL tpW y hy).2.2.1
        have z2 := wid1 (W.o y.2.1 0)
        omega)]
    rw [veq]
    exact jw.mv (R := W) (u := s) ⟨⟨by rw [Wi], by rw [Wi], by rw [Wi], by rw [Wi], by rw [Wi]⟩, by rw [Wa], by rw [Wa], by rw [Wa], by rw [Wa]⟩ (by rw [Wi]) (by rw [Wi]) (by rw [Wi]) (by rw [Wa]) (by rw [Wa]) (D52.rf s) ⟨rfl, rfl, rfl, rfl, rfl, rfl⟩ ⟨rfl, rfl, rfl, rfl, rfl, rfl, rfl, rfl, rfl⟩
