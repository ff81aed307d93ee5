/-! reading: for over rows: its body -/
def RWT (t : Nat) (s D : RS) : Prop := ∀ (Q B2 v2 : RS) (γ0 : Nat), KP t D Q → cdI Q = cdI D → SNW s Q → TAB Q → goI Q = goI s → KP t Q B2 → B2.i 38 = Q.i 38 → cdI B2 = cdI D + 1 → B2.a 21 (cdI D).toNat = 24 → B2.a 23 (cdI D).toNat = D.i 42 → slI D < slI B2 → caI B2 = caI D → deI B2 = deI s + 1 → fr D + 1 ≤ fr B2 → (γ0 : Int) = goI s → goI B2 = goI s + 1 → B2.a 44 γ0 = 0 → gv B2 47 γ0 = deI s + 1 → (∀ b : Bool, hd B2 b γ0 = -1) → TS B2 v2 → KP t B2 v2 → INV v2 → SAME B2 v2 → fr B2 ≤ fr v2 → ¬ 0 ≤ v2.i 18 → RWS t s Q v2 γ0 (cdI D).toNat
theorem RO12 {N b : Nat} (hN : 4000 ≤ N) (hs : 1 ≤ b → RUNS N (b - 1)) {m : Nat} {s D : RS} {t : Nat} {P : RS → Prop} (hI : INV s) (hp : PRS s) (h9 : t < 998) (hb : 2 * (t : Int) ≤ fr s + 12 * op s + 2) (hcb : 900 - fr s ≤ b) (hF : ∀ u, FS' s u → P u) (mD : MF t s D) (cD : cdI s + 2 ≤ cdI D) (D64 : D.a 64 t = 12) (D65 : D.a 65 t = 12) (D71 : D.a 71 t = s.i 38) (fD : fr s + 4 ≤ fr D) (slD : 2 * (slI D + 1 - slI s) ≤ fr D - fr s) (hT : RWT t s D) (hn : 36000 ≤ (m : Int) + 40 * fr D) (n1 : 1 ≤ m) (hC : ∀ (m' : Nat) (u : RS), PS t s u → fr D ≤ fr u → (m : Int) + 40 * fr D ≤ m' + 40 * fr u → ok (f_X12_parse_10 N m' u) P) : ok (f_X12_parse_10 N (m + 1) D) P := by
  have hN1 : 1000 ≤ N := by omega
  obtain ⟨a1, a2, a3, a4, a5, a6, a7, a8, a9, a10⟩ := id mD
  have fDf := a1.1.f0
  have hf := hI.1.f0
  have cc := a1.cd
  have cs := hI.cd
  have gos := hI.2.2.2.2.2.2.2.2.2.2.2.1
  have des := hI.2.2.2.2.2.2.2.2.2.2.2.2.1
  have hop := hI.op
  have nse := a1.2.2.2.2.2.2.2.2.2.1
  have nsl := a1.2.2.2.2.2.2.2.2.2.2.1
  have ekD : ((cdI D).toNat : Int) = cdI D := Int.toNat_of_nonneg cc.1
  refine lp_12 a2 (by omega) a1.2.2.1 D64 ?_
  unfold f_X12_fors
  rw [if_pos (tp_ib a2 (by omega)), tp_nat a2, if_neg (by rw [D65]; decide), if_neg (by rw [D65]; decide), if_neg (by rw [D65]; decide), if_neg (by rw [D65]; decide), if_neg (by rw [D65]; decide), if_neg (by rw [D65]; decide), if_neg (by rw [D65]; decide), if_neg (by rw [D65]; decide), if_neg (by rw [D65]; decide), bind_some]
  unfold f_X12_rows
  rw [if_pos (tp_ib a2 (by omega)), tp_nat a2, if_neg (by rw [D65]; decide), if_pos D65, p_se (N := N) (u := D) (D.b 74 t) (Or.inl rfl) nse.1 (by omega)]
  obtain ⟨q, hq⟩ : ∃ q, q = SE D (D.b 74 t) 0 := ⟨_, rfl⟩
  have mq : MF t s q := by rw [hq]; exact mD.se hI slD
  have qi : ∀ j : Nat, j ≠ 38 → j ≠ 42 → q.i j = D.i j := fun j h1 h2 => by rw [hq]; exact SE.eI h1 h2
  have qa : ∀ k : Nat, k ≠ 40 → k ≠ 41 → q.a k = D.a k := fun k h1 h2 => by rw [hq]; exact SE.eA h1 h2
  have qsl : slI q = slI D + 1 := by rw [hq]; exact SE.eSL (by omega) (by omega)
  have qk : KP t D q := by rw [hq]; exact (KP.rf t D).se nse.1 (by omega) (by omega) (by omega)
  show ok (((f_X12_shut N (SE D (D.b 74 t) 0) 41).bind fun p18 => (f_X12_emit N (RS.setI p18.2 52 ((p18.2.i 52) + 1)) 24 0).bind fun p20 => if ib ((upd (p20.2.a 66) t p20.1) t) 3000 then (f_X12_loopGoal N (RS.setA (RS.setA p20.2 66 t p20.1) 23 ((((upd (p20.2.a 66) t p20.1) t) : Int32).toNatClampNeg) (D.i 42))).bind fun p23 => (f_X12_body N (RS.setA p23.2 73 t p23.1) 13).bind fun p25 => some p25 else none).bind fun p => f_X12_parse_10 N m p) P
  rw [← hq]
  clear hq
  have cq : cdI q = cdI D := by unfold cdI; rw [qi 20 (by decide) (by decide)]
  have fq : fr q = fr D := by unfold fr; rw [qi 11 (by decide) (by decide)]
  have tkq : tkI q = tkI D := by unfold tkI; rw [qi 17 (by decide) (by decide)]
  obtain ⟨D0, eD, x1, x2, x3⟩ := p_sh hN1 mq.1.1 41 (by decide)
  rw [eD]
  obtain ⟨S, hS⟩ : ∃ S, S = D0.2 := ⟨_, rfl⟩
  show ok (((f_X12_emit N (RS.setI D0.2 52 ((D0.2.i 52) + 1)) 24 0).bind fun p20 => if ib ((upd (p20.2.a 66) t p20.1) t) 3000 then (f_X12_loopGoal N (RS.setA (RS.setA p20.2 66 t p20.1) 23 ((((upd (p20.2.a 66) t p20.1) t) : Int32).toNatClampNeg) (D.i 42))).bind fun p23 => (f_X12_body N (RS.setA p23.2 73 t p23.1) 13).bind fun p25 => some p25 else none).bind fun p => f_X12_parse_10 N m p) P
  rw [← hS] at x1 x2 x3 ⊢
  clear hS eD
  have aS : S.a = q.a := x1.1
  have cS : cdI S = cdI D := x1.tbl.cd.trans cq
  have kDS : KP t D S := qk.lx x1
  have ksS : KP t s S := mq.2.2.1.lx x1
  have tS : TAB S := mq.1.2.2.2.1.lx x1
  have iS : ∀ j : Nat, (j < 10 ∨ 18 ≤ j) → j ≠ 19 → S.i j = q.i j := fun j h1 h2 => x1.2.2.1 j h1 h2
  obtain ⟨U, hU⟩ : ∃ U, U = S.setI 52 (S.i 52 + 1) := ⟨_, rfl⟩
  have iU : ∀ j : Nat, j ≠ 52 → U.i j = S.i j := fun j hj => by rw [hU]; exact if_neg hj
  have U52 : U.i 52 = S.i 52 + 1 := by rw [hU]; rfl
  have aU : U.a = S.a := by rw [hU]; rfl
  have kSU : KP t S U := by rw [hU]; exact (KP.rf t S).i52 _
  have tbU : TBL S U := by rw [hU]; exact TBL.i52 S _
  have lU : LXI U := by rw [hU]; exact x1.2.2.2.1
  rw [← hU]
  clear hU
  have S52 : S.i 52 = s.i 52 := by rw [iS 52 (by omega) (by decide)]; exact mq.2.2.2.1.2.2.1
  have dU : deI U = deI s + 1 := by
    have e1 : (1 : Int32).toInt = 1 := by decide
    have d2 : (s.i 52).toInt = deI s := rfl
    unfold deI
    rw [U52, S52, toInt_add] <;> rw [e1] <;> (unfold deI at *; omega)
  have dS : deI S = deI s := by unfold deI; rw [S52]
  have cU : cdI U = cdI D := tbU.cd.trans cS
  have tU : TAB U := tS.tbl tbU (fun γ hγ => by have := (tS.2.2.2.2.2.2.1 γ hγ).2; omega) (by rw [iU 75 (by decide)]; exact tS.2.2.2.2.2.2.2.2.2)
  rw [p_em 24 0 (by omega) (by omega)]
  obtain ⟨E, hE⟩ : ∃ E, E = EM U 24 0 := ⟨_, rfl⟩
  have lE : LXI E := by rw [hE]; exact LXI.em lU
  have kUE : KP t U E := by rw [hE]; exact (KP.rf t U).em (by omega) (by omega)
  have tE : TAB E := by rw [hE]; exact tU.em (by omega) (by omega)
  have iE : ∀ j : Nat, j ≠ 20 → E.i j = U.i j := fun j hj => by rw [hE]; exact EM.i hj
  have aE : ∀ k : Nat, k ≠ 21 → k ≠ 22 → k ≠ 23 → E.a k = U.a k := fun k h1 h2 h3 => by rw [hE]; exact EM.a h1 h2 h3
  have cE : cdI E = cdI D + 1 := by rw [hE, EM.cd (by omega) (by omega)]; omega
  have E21 : E.a 21 (cdI D).toNat = 24 := by rw [hE, EM.a21, if_pos (by rw [cU])]
  show ok ((if ib ((upd ((EM U 24 0).a 66) t (U.i 20)) t) 3000 then (f_X12_loopGoal N (RS.setA (RS.setA (EM U 24 0) 66 t (U.i 20)) 23 ((((upd ((EM U 24 0).a 66) t (U.i 20)) t) : Int32).toNatClampNeg) (D.i 42))).bind fun p23 => (f_X12_body N (RS.setA p23.2 73 t p23.1) 13).bind fun p25 => some p25 else none : Option RS).bind fun p => f_X12_parse_10 N m p) P
  rw [← hE]
  clear hE
  have eu : upd (E.a 66) t (U.i 20) t = U.i 20 := if_pos rfl
  have k20 : (U.i 20).toInt = ((cdI D).toNat : Int) := by rw [ekD]; exact cU
  rw [eu, if_pos (show ib (U.i 20) 3000 from ⟨by omega, by omega⟩), k_nat k20]
  obtain ⟨F, hFF⟩ : ∃ F, F = (E.setA 66 t (U.i 20)).setA 23 (cdI D).toNat (D.i 42) := ⟨_, rfl⟩
  have lF : LXI F := by rw [hFF]; exact (lE.sA 66 t _).sA 23 _ _
  have iF : F.i = E.i := by rw [hFF]; rfl
  have kSE : KP t S E := kSU.tr kUE (Nat.le_refl _)
  have kSF : KP t S F := by rw [hFF]; exact (kSE.loc t _ (by omega) (by omega) (Nat.le_refl _)).iy (by omega)
  have aF : ∀ k : Nat, k ≠ 66 → k ≠ 23 → F.a k = E.a k := fun k h1 h2 => by rw [hFF, setA_nk h2, setA_nk h1]
  have F66 : F.a 66 t = U.i 20 := by rw [hFF, setA_nk (by decide)]; exact setA_at
  have F23 : F.a 23 (cdI D).toNat = D.i 42 := by rw [hFF]; exact setA_at
  have tF : TAB F := by
    rw [hFF]
    exact (tE.tbl (TBL.loc E t _ (by omega) (by omega)) (fun γ hγ => (tE.2.2.2.2.2.2.1 γ hγ).2) tE.2.2.2.2.2.2.2.2.2).iy
  rw [← hFF]
  clear hFF
  sorry
