/-! reading: switch: case by case -/
theorem GR3 {N b : Nat} (hN : 4000 ≤ N) (hl : 1 ≤ b → RUNL N (b - 1)) {m : Nat} {s V u U p : RS} {t γ0 : Nat} {L : List Nat} {y : Int32} {P : RS → Prop} (hI : INV s) (h9 : t < 998) (hb : 2 * (t : Int) ≤ fr s + 12 * op s + 2) (hc : 900 - fr s ≤ b) (hF : ∀ u, FS' s u → P u) (kV : KP t s V) (i1 : INV V) (d1 : V.i 52 = s.i 52) (fV : fr s + 3 ≤ fr V) (gV : goI V = goI s) (g0 : (γ0 : Int) = goI s) (hg : GI t s V γ0 L u) (h68 : ∀ r : RS, (∀ j : Nat, j ∈ L → r.a 28 j = u.a 28 j) → r.a 28 (enI u).toNat = y → r.a 68 t = u.a 68 t → G68 t (L ++ [(enI u).toNat]) r) (en : ENT t (cdI V).toNat L y u U) (x : LX U p) (ip : INV p) (p19 : p.i 19 = U.i 19) (hsl : 2 * (enI u + 1 - enI s) + 2 ≤ fr p - fr s) (fp : fr u ≤ fr p) (tk1 : tkI u ≤ tkI p) (tk2 : tkI p - tkI u ≤ fr p - fr u) (hn : 36000 + 40 ≤ (m : Int) + 40 * fr p) (hC : ∀ (m' : Nat) (w : RS), GI t s V γ0 (L ++ [(enI u).toNat]) w → G68 t (L ++ [(enI u).toNat]) w → w.a 65 t = 2 → fr p + 1 ≤ fr w → (m : Int) + 40 * fr p + 30 ≤ m' + 40 * fr w → ok (f_X12_parse_10 N (m' + 1) w) P) : ok (((f_X12_need N p 58).bind fun p54 => (f_X12_then N p54.2 3 1).bind fun p56 => some p56).bind fun p => f_X12_parse_10 N m p) P := by
  have hN1 : 1000 ≤ N := by omega
  have fpf := ip.1.f0
  have c4u := hg.2.2.1.2.2.2.1
  have kU := hg.kpe i1 en
  have tpU : tpI U = t := (congrArg Int32.toInt (en.1 63 (by decide))).trans hg.1.2.1
  have hLu : ∀ j ∈ L, (j : Int) < enI u := fun j hj => (hg.2.2.2.2.1.2.2.2 j hj).2.1
  have eu0 : 0 ≤ enI u := hg.1.1.2.2.2.2.2.2.1.1
  have ee : ((enI u).toNat : Int) = enI u := Int.toNat_of_nonneg eu0
  obtain ⟨q, eq, z1, z2⟩ := NDO hN1 ip 58 (by decide)
  rw [eq]
  clear eq
  show ok (((f_X12_then N q.2 3 1).bind fun p56 => some p56).bind fun p => f_X12_parse_10 N m p) P
  have xq : LX U q.2 := x.tr z1
  rw [p_th 3 1 (xq.tp.trans tpU) (by omega)]
  show ok (f_X12_parse_10 N m (TH q.2 t 3 1)) P
  rcases z2 with z2 | ⟨z2, z3, z4, z5, z6, z7⟩
  · exact lp_f (u := TH q.2 t 3 1) z2 (hF _ (FS'.th (FS'.of (kV.tr kU (Nat.le_refl _)).1.1 xq z2 (by rw [en.1 75 (by decide)]; exact hg.1.1.r)))) (by omega)
  obtain ⟨B, hB⟩ : ∃ B, B = q.2 := ⟨_, rfl⟩
  rw [← hB] at z1 z2 z4 z5 z6 z7 xq ⊢
  clear hB
  have fBf := z4.1.f0
  have gb : GB t s V B := hg.gb i1 en xq (z5.trans p19) (by omega) (by omega) (by omega)
  obtain ⟨h1, h2, ⟨h3, h4, h5, h6⟩, h7, h8, h9'⟩ := id gb
  have oB : op B = op s + 1 := by
    have o1 := z4.op
    have o2 := hI.op
    have e1 : (1 : Int32).toInt = 1 := by decide
    have a : op B = (B.i 19).toInt := rfl
    have b : op s = (s.i 19).toInt := rfl
    rw [a, h3, toInt_add] <;> rw [e1] <;> omega
  refine CALLL (hl (by omega)) z4 h2 h9' (by omega) (by omega) (by omega) (by omega) (fun r hr => hF r (FS'.kp (kV.tr h1 (Nat.le_refl _)) hr)) (fun m2 v hv _ hm => ?_)
  obtain ⟨w1, w2, w3, w4, w5, w6, w7, w8, w9, w10, w11⟩ := id hv
  have fv := w1.1.f0
  obtain ⟨m3, rfl⟩ : ∃ m3, m2 = m3 + 1 := ⟨m2 - 1, by omega⟩
  have push3 : ((m3 + 1 : Nat) : Int) = (m3 : Int) + 1 := by omega
  rw [push3] at hm
  have l64 : v.a 64 t = 14 := by rw [w11 64 (by omega) (by omega) (by omega), xq.1, en.2.2.2.1 64 (by decide) (by omega) (by decide)]; exact hg.2.2.2.1.1
  refine lp_14 w2 (by omega) w1.2.2.1 l64 ?_
  unfold f_X12_groups
  rw [if_pos (tp_ib w2 (by omega)), tp_nat w2, if_neg (by rw [w10]; decide), if_neg (by rw [w10]; decide), if_neg (by rw [w10]; decide)]
  have s70 : ∃ r : Int32, (if (v.i 75) = 0 then f_X12_groups_356 N (RS.setA v 70 t 0) (v.i 63) else f_X12_groups_356 N (RS.setA v 70 t 1) (v.i 63)) = some ((v.setA 70 t r).setA 65 t 2) ∧ (v.i 75 = 1 → r = 1) := by
    unfold f_X12_groups_356
    by_cases c : v.i 75 = 0
    · rw [if_pos c, if_pos (tp_ib w2 (by omega)), tp_nat w2]; exact ⟨0, rfl, fun q => by rw [c] at q; exact absurd q (by decide)⟩
    · rw [if_neg c, if_pos (tp_ib w2 (by omega)), tp_nat w2]; exact ⟨1, rfl, fun _ => rfl⟩
  obtain ⟨r, er, hr⟩ := s70
  rw [er]
  show ok (f_X12_parse_10 N m3 ((v.setA 70 t r).setA 65 t 2)) P
  obtain ⟨w, hw⟩ : ∃ w, w = (v.setA 70 t r).setA 65 t 2 := ⟨_, rfl⟩
  have gw : GI t s V γ0 (L ++ [(enI u).toNat]) w := hg.snoc i1 gV d1 g0 en xq z4 gb (by omega) (by omega) (by omega) hv hr hw
  have w65 : w.a 65 t = 2 := by rw [hw]; exact setA_at
  have fw : fr w = fr v := by rw [hw]; rfl
  have ke := w3.2.2.1
  have enB : enI B = enI u + 1 := xq.tbl.en.trans en.2.1
  have w28 : ∀ j : Nat, (j : Int) < enI B → w.a 28 j = U.a 28 j := fun j hj => by rw [hw, setA_nk (by decide), setA_nk (by decide), ke.2.2.2.2 j hj, xq.1]
  have w68 : w.a 68 t = u.a 68 t := by rw [hw, setA_nk (by decide), setA_nk (by decide), w11 68 (by omega) (by omega) (by omega), xq.1, en.2.2.2.1 68 (by decide) (by omega) (by decide)]
  have g68 : G68 t (L ++ [(enI u).toNat]) w := by
    refine h68 w (fun j hj => ?_) ?_ w68
    · have := hLu j hj
      rw [w28 j (by omega), en.2.2.2.2.2.2.2.1 28 j (by omega) (by omega) (by omega) (Or.inl (by decide))]
    · rw [w28 _ (by omega)]; exact en.2.2.2.2.2.2.2.2.2.2.1
  rw [← hw]
  clear hw
  obtain ⟨m4, rfl⟩ : ∃ m4, m3 = m4 + 1 := ⟨m3 - 1, by omega⟩
  have push4 : ((m4 + 1 : Nat) : Int) = (m4 : Int) + 1 := by omega
  rw [push4] at hm
  exact hC m4 w gw g68 w65 (by omega) (by omega)
theorem GR2 {N b : Nat} (hN : 4000 ≤ N) (hl : 1 ≤ b → RUNL N (b - 1)) {s A V : RS} {t γ0 : Nat} {P : RS → Prop} {B0 : Int} (hI : INV s) (h9 : t < 998) (hb : 2 * (t : Int) ≤ fr s + 12 * op s + 2) (hc : 900 - fr s ≤ b) (hF : ∀ u, FS' s u → P u) (kA : KP t s A) (cA : cdI A = cdI s + 1) (A21 : A.a 21 (cdI s).toNat = 1) (A38 : A.i 38 = s.i 38) (A52 : A.i 52 = s.i 52) (fA : fr s + 2 ≤ fr A) (te : ¬ 0 ≤ V.i 18 → TE A V) (k1 : KP t A V) (i1 : INV V) (d1 : V.i 52 = s.i 52) (f1 : fr A + 1 ≤ fr V) (gV : goI V = goI s) (V38 : V.i 38 = s.i 38) (g0 : (γ0 : Int) = goI s) (hC : ∀ (m : Nat) (u : RS), PS t s u → fr s + 1 ≤ fr u → B0 ≤ m + 40 * fr u → ok (f_X12_parse_10 N m u) P) : ∀ (d m : Nat) (L : List Nat) (w : RS), GI t s V γ0 L w → G68 t L w → w.a 65 t = 2 → 900 - fr w < d → 36000 + 60 ≤ (m : Int) + 40 * fr w → B0 ≤ (m : Int) + 40 * fr w → ok (f_X12_parse_10 N (m + 1) w) P
  | 0, m, L, w, hg, h68, w65, hd, hm, hB => by
    have := hg.1.1.1.f0
    omega
  | d + 1, m, L, w, hg, h68, w65, hd, hm, hB => by
    have hN1 : 1000 ≤ N := by omega
    have ih := GR2 hN hl hI h9 hb hc hF kA cA A21 A38 A52 fA te k1 i1 d1 f1 gV V38 g0 hC d
    obtain ⟨⟨a1, a2, a3, a4⟩, ⟨b1, b2, b3, b4⟩, ⟨c1, c2, c3, c4, c5⟩, ⟨d1', d2, d3, d4, d5, d6⟩, ⟨e1, e2, e3, e4⟩, ⟨f1', f2, M, f3, f4⟩, g1⟩ := id hg
    have fw := a1.1.f0
    have cV := i1.cd
    have cw := a1.cd
    have ek : ((cdI V).toNat : Int) = cdI V := Int.toNat_of_nonneg cV.1
    have ksV : KP t s V := kA.tr k1 (Nat.le_refl _)
    have ksw : KP t s w := ksV.tr a3 (Nat.le_refl _)
    have ibx : ib (w.i 63) 1000 := tp_ib a2 (by omega)
    have nx : (w.i 63).toNatClampNeg = t := tp_nat a2
    have hns := hI.2.2.2.2.2.2.1
    have hnw := a1.2.2.2.2.2.2.1
    refine lp_14 a2 (by omega) a1.2.2.1 d1' ?_
    unfold f_X12_groups
    rw [if_pos ibx, nx, if_neg (by rw [w65]; decide), if_neg (by rw [w65]; decide), if_pos w65]
    by_cases t1 : w.i 10 = 429
    · rw [if_pos t1]
      obtain ⟨w1, ew, y1, y2, y3, y4, y5, y6, y7⟩ := NX hN1 a1 (by rw [t1]; decide)
      have y7 := y7 (Or.inl (by rw [t1]; decide))
      rw [ew]
      have gw1 : GI t s V γ0 L w1 := hg.lx y4 y1 y3 (by omega) (by omega) (by omega)
      have e1n : enI w1 = enI w := y1.tbl.en
      obtain ⟨p, ep, hp⟩ := CASEN (L := L) (c0 := (cdI V).toNat) hN1 y4 ibx nx (by rw [gw1.2.2.2.1.2.1, ek]) (by omega) gw1.2.2.2.1.2.2.1 gw1.2.2.2.2.1.2.2.1 (fun j hj => (gw1.2.2.2.2.1.2.2.2 j hj).2.1) (by rw [gw1.2.2.2.2.1.2.1]; decide) (by omega)
      show ok (((f_X12_caseNumber N w1 (w.i 63)).bind fun p51 => (if p51.1 = 0 then some p51.2 else (f_X12_need N p51.2 58).bind fun p54 => (f_X12_then N p54.2 3 1).bind fun p56 => some p56)).bind fun p => f_X12_parse_10 N m p) P
      rw [ep]
      show ok ((if p.1 = 0 then some p.2 else (f_X12_need N p.2 58).bind fun p54 => (f_X12_then N p54.2 3 1).bind fun p56 => some p56 : Option RS).bind fun p => f_X12_parse_10 N m p) P
      rcases hp with ⟨p1, p2, p3⟩ | ⟨p1, u, U, u1, u2, u3, u4, u5, u6, u7, u8, u9, u10, u11, u12, u13⟩
      · rw [if_pos p1]
        exact lp_f p2 (hF _ (FS'.of ksw.1.1 (y1.tr p3) p2 a1.r)) (by omega)
      rw [if_neg (by rw [p1]; decide)]
      have gu : GI t s V γ0 L u := gw1.lx u2 u1 u3 u4 u5 u6
      have fU : fr U = fr u := by unfold fr; rw [u7.1 11 (by decide)]
      have tU : tkI U = tkI u := by unfold tkI; rw [u7.1 17 (by decide)]
      have eun : enI u = enI w1 := u1.tbl.en
      refine GR3 hN hl hI h9 hb hc hF ksV i1 d1 (by omega) gV g0 gu (fun r r1 r2 r3 => ?_) u7 u8 u10 u11 (by omega) (by omega) (by omega) (by omega) (by omega) (fun m' w' q1 q2 q3 q4 q5 => ih m' _ w' q1 q2 q3 (by omega) (by omega) (by omega))
      have au : u.a = w.a := by rw [u1.1, y1.1]
      rw [au] at r1 r3
      rcases h68 with h | ⟨j, j1, j2⟩
      · left; rw [r3]; exact h
      · right; exact ⟨j, List.mem_append_left _ j1, by rw [r1 j j1]; exact j2⟩
    rw [if_neg t1]
    by_cases t2 : w.i 10 = 430
    · rw [if_pos t2]
      by_cases c68 : w.a 68 t = 1
      · rw [if_pos c68]
        obtain ⟨S, eS, r1, r2, r3⟩ := p_fl (N := N) a1.1 4 (w.i 11) (by decide)
        rw [eS]
        exact lp_f (u := S) r2 (hF _ (FS'.of ksw.1.1 r1 r2 a1.r)) (by omega)
      rw [if_neg c68]
      obtain ⟨u, hu⟩ : ∃ u, u = w.setA 68 t 1 := ⟨_, rfl⟩
      have iu : INV u := by rw [hu]; exact a1.loc t 1 (by omega) (by omega)
      have tbu : TBL w u := by rw [hu]; exact TBL.loc w t 1 (by omega) (by omega)
      have iiu : u.i = w.i := by rw [hu]; rfl
      have au : ∀ k : Nat, k ≠ 68 → u.a k = w.a k := fun k hk => by rw [hu]; exact setA_nk hk
      have kwu : KP t w u := by rw [hu]; exact (KP.rf t w).loc t 1 (by omega) (by omega) (Nat.le_refl _)
      have fu : fr u = fr w := by unfold fr; rw [iiu]
      have tu : tkI u = tkI w := by unfold tkI; rw [iiu]
      have gu : GI t s V γ0 L u := hg.tbl iu tbu kwu (by rw [iiu]) (by rw [iiu]) (by rw [iiu]) (by unfold tpI; rw [iiu]) (by omega) (by omega) (by omega) (fun k _ _ _ k4 => by rw [au k k4])
      rw [← hu]
      clear hu
      have eun : enI u = enI w := tbu.en
      obtain ⟨U, eU, en⟩ := p_en (N := N) (u := u) (L := L) (c0 := (cdI V).toNat) 0 1 ibx nx (by omega) (by omega) (by rw [gu.2.2.2.1.2.1, ek]) (by omega) gu.2.2.2.1.2.2.1 gu.2.2.2.2.1.2.2.1 (fun j hj => (gu.2.2.2.2.1.2.2.2 j hj).2.1)
      rw [eU]
      have iU : INV U := iu.ent en (by rw [gu.2.2.2.2.1.2.1]; decide) (fun j hj => (gu.2.2.2.2.1.2.2.2 j hj).2.1) (by omega)
      obtain ⟨p, ep, y1, y2, y3, y4, y5, y6, y7⟩ := NX hN1 iU (by rw [en.1 10 (by decide), iiu, t2]; decide)
      have y7 := y7 (Or.inl (by rw [en.1 10 (by decide), iiu, t2]; decide))
      have fU : fr U = fr u := by unfold fr; rw [en.1 11 (by decide)]
      have tU : tkI U = tkI u := by unfold tkI; rw [en.1 17 (by decide)]
      show ok (((f_X12_next N U).bind fun p41 => (f_X12_need N p41 58).bind fun p43 => (f_X12_then N p43.2 3 1).bind fun p45 => some p45).bind fun p => f_X12_parse_10 N m p) P
      rw [ep]
      show ok (((f_X12_need N p 58).bind fun p43 => (f_X12_then N p43.2 3 1).bind fun p45 => some p45).bind fun p => f_X12_parse_10 N m p) P
      refine GR3 hN hl hI h9 hb hc hF ksV i1 d1 (by omega) gV g0 gu (fun r r1 r2 r3 => Or.inr ⟨_, List.mem_append_right _ (List.mem_cons_self ..), by rw [r2]; decide⟩) en y1 y4 y3 (by omega) (by omega) (by omega) (by omega) (by omega) (fun m' w' q1 q2 q3 q4 q5 => ih m' _ w' q1 q2 q3 (by omega) (by omega) (by omega))
    rw [if_neg t2]
    exact GR9 hN hI h9 hF kA cA A21 A38 A52 (by omega) te k1 i1 d1 f1 gV V38 g0 hg h68 (by omega) (fun u hu hf => hC m u hu (by omega) (by omega))
