/-! reading: for over rows: its values -/
theorem RWT.raise {t : Nat} {s D : RS} (hI : INV s) (kD : KP t s D) (cD : cdI s + 2 ≤ cdI D) (e0 : D.a 21 (cdI s).toNat = 1) (e21 : D.a 21 (cdI s + 1).toNat = 20) (e22 : D.a 22 (cdI s + 1).toNat = 1) : RWT t s D := by
  intro Q B2 v2 γ0 kQ cQ snQ tQ gQ QB B38 cB B21 B23 slB caB dB fB g0 gB B44 B47 bB ts k2 i2 s2 f2 z W Lc Lb xc xc' xb hpp tW cW hxc hxb W1 W2 W3 hxc' W4 hw W75 hse w18 wf wi
  have cs := hI.cd
  have le2 := k2.2.1.1
  have kDB : KP t D B2 := kQ.tr QB (Nat.le_refl _)
  have kDv : KP t D v2 := kDB.tr k2 (Nat.le_refl _)
  have ek1 : ((cdI s + 1).toNat : Int) = cdI s + 1 := Int.toNat_of_nonneg (by omega)
  have ns : ∀ k : Nat, k ∈ Lc ∨ k ∈ Lb → cdI B2 ≤ (k : Int) := fun k hk => by
    rcases hk with hk | hk
    · exact (new_sites k2 bB (by omega) hpp.2.2.2.2.1 k hk).1
    · exact (new_sites k2 bB (by omega) hpp.2.2.2.2.2.1 k hk).1
  refine TS.raise hI (by omega) ?_ ?_ ?_ ?_
  · rw [(hpp.2.2.2.2.2.2.1 _ (by omega)).1, kDv.2.1.2.1 _ (by omega)]; exact e0
  · rw [(hpp.2.2.2.2.2.2.1 _ (by omega)).1, kDv.2.1.2.1 _ (by omega)]; exact e21
  · rw [hpp.2.2.2.2.2.2.2.1 _ (by omega) (fun q => by have := ns _ (Or.inl q); omega) (fun q => by have := ns _ (Or.inr q); omega) (fun q => by have q : (cdI s + 1).toNat = (cdI D).toNat := q; omega), kDv.2.1.2.2.1 _ (by omega)]; exact e22
  · rw [wi 3 (by omega), (kD.tr kDv (Nat.le_refl _)).1.1.1 3 (by omega)]
    have := le_int hI.2.1.2.1.1
    have e4 : (4 : Int32).toInt = 4 := by decide
    omega
theorem RWT.rows {t n : Nat} {s A v1 D : RS} {xn : Int32} (hI : INV s) (kA : KP t s A) (cA : cdI A = cdI s + 1) (A21 : A.a 21 (cdI s).toNat = 1) (A38 : A.i 38 = s.i 38) (A52 : A.i 52 = s.i 52) (fA : fr s ≤ fr A) (fA9 : fr A ≤ fr v1) (n1 : 1 ≤ n) (te : ¬ 0 ≤ v1.i 18 → TEN n A v1) (k1 : KP t A v1) (i1 : INV v1) (d1 : v1.i 52 = s.i 52) (f1 : fr s + 2 * n ≤ fr v1) (gv1 : goI v1 = goI s) (kD : KP t v1 D) (cD : cdI D = cdI v1 + 1) (D21 : D.a 21 (cdI v1).toNat = 23) (D22 : D.a 22 (cdI v1).toNat = xn) (hxn : xn.toInt = n) (D42 : D.i 42 = v1.i 42) (caD : caI D = caI v1) (fD : fr D = fr v1) (d250 : deI s + 1 ≤ 250) : RWT t s D := by
  intro Q B2 v2 γ0 kQ cQ snQ tQ gQ QB B38 cB B21 B23 slB caB dB fB g0 gB B44 B47 bB ts k2 i2 s2 f2 z W Lc Lb xc xc' xb hpp tW cW hxc hxb W1 W2 W3 hxc' W4 hw W75 hse w18 wf wi
  have c1 := i1.cd
  have kDB : KP t D B2 := kQ.tr QB (Nat.le_refl _)
  have slD : slI D = slI v1 := by unfold slI; rw [D42]
  rw [cD] at B21 B23 hpp hxc W1 hxc' cQ
  have ekL : ((cdI v1 + 1).toNat : Int) = cdI v1 + 1 := Int.toNat_of_nonneg (by omega)
  refine TS.rows hI kA cA A21 A38 A52 fA fA9 n1 (te (fun q => z (k2.1.2 ((kD.tr kDB (Nat.le_refl _)).1.2 q)))) k1 i1 d1 f1 gv1 (kD.tr kQ (Nat.le_refl _)) cQ snQ tQ gQ QB B38 (by omega) ?_ ?_ hxn B21 B23 (by rw [D42]; rfl) (by omega) (by omega) dB d250 (by omega) g0 gB B44 B47 bB ts k2 i2 s2 f2 hpp tW cW (by omega) hxb W1 W2 W3 (by omega) W4 hw W75 hse w18 wf
  · rw [kDB.2.1.2.1 _ (by omega)]; exact D21
  · rw [kDB.2.1.2.2.1 _ (by omega)]; exact D22
theorem TEN.zero (s : RS) : TEN 0 s s := fun _ _ _ _ _ _ _ _ _ => COD.nil (fun _ _ hE => hE.2)
theorem RO10 {N b : Nat} (hN : 4000 ≤ N) (hx : 1 ≤ b → RUNE N 16 4 11 24 (b - 1)) (hs : 1 ≤ b → RUNS N (b - 1)) {s A : RS} {t : Nat} {P : RS → Prop} {B : Int} (hI : INV s) (hp : PRS s) (h9 : t < 998) (hb : 2 * (t : Int) ≤ fr s + 12 * op s + 2) (hcb : 900 - fr s ≤ b) (hF : ∀ u, FS' s u → P u) (kA : KP t s A) (cA : cdI A = cdI s + 1) (A21 : A.a 21 (cdI s).toNat = 1) (A38 : A.i 38 = s.i 38) (A52 : A.i 52 = s.i 52) (fA : fr s ≤ fr A) (hC : ∀ (m : Nat) (u : RS), PS t s u → fr s + 1 ≤ fr u → B ≤ m + 40 * fr u → ok (f_X12_parse_10 N m u) P) : ∀ (d n k : Nat) (u w : RS), 900 - fr w ≤ d → MF t s w → w.a 64 t = 12 → w.a 71 t = s.i 38 → (w.a 68 t).toInt = k → w.i 38 = s.i 38 → 2 * (slI w + 1 - slI s) ≤ fr w - fr s → cdI w + 1 - cdI s ≤ 3 * (fr w - fr s) → fr s + 3 + 2 * k ≤ fr w → fr A + 2 * k ≤ fr w → (¬ 0 ≤ w.i 18 → TEN k A u) → KP t A u → TN u → KP t u w → cdI w = cdI u → goI u = goI s → 36000 + 20 ≤ (n : Int) + 40 * fr w → B ≤ (n : Int) + 40 * fr w → ok (f_X12_parse_10 N n (TH w t 10 16)) P := by
  intro d
  induction d with
  | zero =>
    intro n k u w hd mW w64 w71 w68 w38 sl cd f1 f2 te ku tnu kuw cuw gu hn hB
    have fwf := mW.1.1.f0
    have ow : op w = op s + 1 := mW.2.2.2.2.2.2.2.2.1
    refine CALL (hx (by omega)) mW.1 mW.2.1 (by omega) (by omega) (by omega) (by omega) (fun u hu => hF u (FS'.kp mW.2.2.1 hu)) (fun m2 v hv hm2 => ?_)
    have := hv.1.1.f0
    have := hv.2.2.2.2.2.2.1
    omega
  | succ d ih =>
    intro n k u w hd mW w64 w71 w68 w38 sl cd f1 f2 te ku tnu kuw cuw gu hn hB
    have fwf := mW.1.1.f0
    have ow : op w = op s + 1 := mW.2.2.2.2.2.2.2.2.1
    refine CALL (hx (by omega)) mW.1 mW.2.1 (by omega) (by omega) (by omega) (by omega) (fun u hu => hF u (FS'.kp mW.2.2.1 hu)) (fun m2 v hv hm2 => ?_)
    have mV := mW.pc mW.go hv
    obtain ⟨v1, v2, v3, v4, v5, v6, v7, v8, v9, v10, v11, v12⟩ := hv
    have fv := v1.1.f0
    have cv := v1.cd
    have cs := hI.cd
    have hf := hI.1.f0
    have lev := v3.2.1.1
    have les := (ku.tr kuw (Nat.le_refl _)).2.1.1
    obtain ⟨m3, rfl⟩ : ∃ m3, m2 = m3 + 1 := ⟨m2 - 1, by omega⟩
    have push2 : ((m3 + 1 : Nat) : Int) = (m3 : Int) + 1 := by omega
    rw [push2] at hm2
    refine lp_12 v2 (by omega) v1.2.2.1 ((v12 64 (by omega) (by omega) (by omega)).trans w64) ?_
    unfold f_X12_fors
    rw [if_pos (tp_ib v2 (by omega)), tp_nat v2, if_neg (by rw [v11]; decide), if_neg (by rw [v11]; decide), if_neg (by rw [v11]; decide), if_neg (by rw [v11]; decide), if_neg (by rw [v11]; decide), if_neg (by rw [v11]; decide), if_neg (by rw [v11]; decide), if_neg (by rw [v11]; decide), if_neg (by rw [v11]; decide), bind_some]
    unfold f_X12_rows
    rw [if_pos (tp_ib v2 (by omega)), tp_nat v2, if_pos v11]
    have v68 : (v.a 68 t).toInt = k := by rw [v12 68 (by omega) (by omega) (by omega)]; exact w68
    obtain ⟨x, hxx⟩ : ∃ x, x = v.a 68 t + 1 := ⟨_, rfl⟩
    have xk : x.toInt = ((k + 1 : Nat) : Int) := by
      have e1 : (1 : Int32).toInt = 1 := by decide
      rw [hxx, toInt_add] <;> rw [e1] <;> omega
    rw [← hxx]
    clear hxx
    have eu : upd (v.a 68) t x t = x := if_pos rfl
    rw [eu]
    obtain ⟨M, hM⟩ : ∃ M, M = v.setA 68 t x := ⟨_, rfl⟩
    have mM : MF t s M := by rw [hM]; exact mV.loc _ (by omega) (by omega)
    have kM : KP t v M := by rw [hM]; exact (KP.rf t v).loc t _ (by omega) (by omega) (Nat.le_refl _)
    have iM : M.i = v.i := by rw [hM]; rfl
    have aM : ∀ k : Nat, k ≠ 68 → M.a k = v.a k := fun k hk => by rw [hM]; exact setA_nk hk
    have M68 : M.a 68 t = x := by rw [hM]; exact setA_at
    rw [← hM]
    clear hM
    have fM : fr M = fr v := by unfold fr; rw [iM]
    have cM : cdI M = cdI v := by unfold cdI; rw [iM]
    have slM : slI M = slI v := by unfold slI; rw [iM]
    have ten : ¬ 0 ≤ v.i 18 → TEN (k + 1) A v := fun q => (te (fun r => q (v3.1.2 r))).snoc ku tnu kuw (v9 q) v3 v1.tn cuw (by have := v4.go; have := mW.go; omega) (w38.trans A38.symm) (mW.2.2.2.1.2.2.1.trans A52.symm) (by omega) (by omega)
    have kAv : KP t A v := (ku.tr kuw (Nat.le_refl _)).tr v3 (Nat.le_refl _)
    have gv' : goI v = goI s := mV.go
    by_cases c : v.i 10 = 44
    · rw [if_pos c]
      obtain ⟨w', ew, y1, y2, y3, y4, y5, y6, y7⟩ := NX (show 1000 ≤ N by omega) mM.1 (by rw [iM, c]; decide)
      rw [ew]
      have mw' : MF t s w' := mM.lx y4 y1 y3 y5 y6
      show ok (((f_X12_then N w' 10 16).bind fun p32 => some p32).bind fun p => f_X12_parse_10 N m3 p) P
      rw [p_th 10 16 mw'.2.1 (by omega)]
      have slw : slI w' = slI v := y1.tbl.sl.trans slM
      have cw' : cdI w' = cdI v := y1.tbl.cd.trans cM
      have pk : ((k + 1 : Nat) : Int) = (k : Int) + 1 := by omega
      refine ih m3 (k + 1) v w' (by omega) mw' ?_ ?_ (by rw [y1.1, M68]; exact xk) ((y1.i38.trans (by rw [iM])).trans (v5.trans w38)) (by unfold RATE at v6; omega) (by unfold RATE at v6; omega) (by omega) (by omega) (fun q => ten (fun r => q ?_)) kAv v1.tn (kM.lx y1) cw' gv' (by omega) (by omega)
      · rw [y1.1, aM 64 (by decide), v12 64 (by omega) (by omega) (by omega)]; exact w64
      · rw [y1.1, aM 71 (by decide), v12 71 (by omega) (by omega) (by omega)]; exact w71
      · rw [y1.2.2.1 18 (by omega) (by omega), iM]; exact r
    · rw [if_neg c, p_em 23 x (by omega) (by omega)]
      show ok (f_X12_parse_10 N m3 ((EM M 23 x).setA 65 t 12)) P
      obtain ⟨D, hD⟩ : ∃ D, D = (EM M 23 x).setA 65 t 12 := ⟨_, rfl⟩
      have mD : MF t s D := by
        rw [hD]
        refine (mM.em hI ?_).loc _ (by omega) (by omega)
        unfold RATE at v6; omega
      have kD : KP t v D := by rw [hD]; exact (kM.em cv.1 (by omega)).loc t _ (by omega) (by omega) (Nat.le_refl _)
      have cD : cdI D = cdI v + 1 := by rw [hD]; exact (EM.cd (u := M) (o := 23) (x := x) (by omega) (by omega)).trans (by rw [cM])
      have D21 : D.a 21 (cdI v).toNat = 23 := by rw [hD, setA_nk (by decide), EM.a21, if_pos (by rw [cM])]
      have D22 : D.a 22 (cdI v).toNat = x := by rw [hD, setA_nk (by decide), EM.a22, if_pos (by rw [cM])]
      have D65 : D.a 65 t = 12 := by rw [hD]; exact setA_at
      have iD : ∀ j : Nat, j ≠ 20 → D.i j = v.i j := fun j hj => by rw [hD]; exact (EM.i hj).trans (by rw [iM])
      have lD : ∀ k : Nat, 64 ≤ k → k ≤ 73 → k ≠ 65 → k ≠ 68 → D.a k t = v.a k t := fun k h1 h2 h3 h4 => by rw [hD, setA_nk h3, EM.a (by omega) (by omega) (by omega), aM k h4]
      rw [← hD]
      clear hD
      have fD : fr D = fr v := by unfold fr; rw [iD 11 (by decide)]
      have slD : slI D = slI v := by unfold slI; rw [iD 42 (by decide)]
      obtain ⟨m', rfl⟩ : ∃ m', m3 = m' + 1 := ⟨m3 - 1, by omega⟩
      have push' : ((m' + 1 : Nat) : Int) = (m' : Int) + 1 := by omega
      rw [push'] at hm2
      have des := hI.2.2.2.2.2.2.2.2.2.2.2.2.1
      have hop := hI.op
      refine RO12 (m := m') hN hs hI hp h9 hb hcb hF mD (by omega) ?_ D65 ?_ (by omega) (by unfold RATE at v6; omega) (RWT.rows (n := k + 1) hI kA cA A21 A38 A52 fA (by omega) (by omega) ten kAv v1 mV.2.2.2.1.2.2.1 (by omega) gv' kD cD D21 D22 xk (iD 42 (by decide)) (by unfold caI; rw [iD 33 (by decide)]) fD (by omega)) (by omega) (by omega) (fun m4 u' hu hf hm => hC m4 u' hu (by omega) (by omega))
      · rw [lD 64 (by omega) (by omega) (by decide) (by decide), v12 64 (by omega) (by omega) (by omega)]; exact w64
      · rw [lD 71 (by omega) (by omega) (by decide) (by decide), v12 71 (by omega) (by omega) (by omega)]; exact w71
