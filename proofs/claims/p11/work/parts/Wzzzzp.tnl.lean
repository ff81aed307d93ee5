/-! both readers: a statement of the list on top -/
/-- u, but the frame T0 is that of s -/
def bkF (s u : RS) (T0 : Nat) : RS := (u.i, u.l, (fun k j => if (65 ≤ k ∧ k ≤ 73) ∧ j = T0 then s.a k j else u.a k j), (fun k j => if k = 74 ∧ j = T0 then s.b k j else u.b k j))
theorem bkF.n {s u : RS} {T0 : Nat} : (bkF s u T0).i = u.i ∧ (bkF s u T0).l = u.l ∧ (∀ k : Nat, k ≠ 74 → (bkF s u T0).b k = u.b k) ∧ (∀ k : Nat, ¬ (65 ≤ k ∧ k ≤ 73) → (bkF s u T0).a k = u.a k) ∧ (∀ k j : Nat, j ≠ T0 → (bkF s u T0).a k j = u.a k j) ∧ (∀ k : Nat, 65 ≤ k → k ≤ 73 → (bkF s u T0).a k T0 = s.a k T0) ∧ (∀ j : Nat, j ≠ T0 → (bkF s u T0).b 74 j = u.b 74 j) ∧ (bkF s u T0).b 74 T0 = s.b 74 T0 := by
  refine ⟨rfl, rfl, fun k hk => ?_, fun k hk => ?_, fun k j hj => ?_, fun k h1 h2 => ?_, fun j hj => ?_, ?_⟩
  · funext j
    exact if_neg (fun z => hk z.1)
  · funext j
    exact if_neg (fun z => hk z.1)
  · exact if_neg (fun z => hj z.2)
  · exact if_pos ⟨⟨h1, h2⟩, rfl⟩
  · exact if_neg (fun z => hj z.2)
  · exact if_pos ⟨rfl, rfl⟩
set_option maxHeartbeats 2000000 in
theorem COR.lst {d : Int32} {B : CS} {b : RS} {t0 T0 : Nat} {L : List CEL} {x : Int} {S S' : CS} {s V : RS} {c : CEL} (h : COR d B b t0 (c :: L) x S s) (tp : TOP S s c) (n1 : ¬ isOne (S.o c.2.1 0)) (n5 : ¬ S.o c.2.1 0 = 305) (hT0 : T0 + 1 = ceT c + wid (S.o c.2.1 0)) (hT : t0 ≤ T0) (hS' : S' = S ∨ S' = CS.setI S 37 (S.i 44)) (ev : ENV d S' V) (f : FRB T0 s V) (v64 : V.a 64 T0 = s.a 64 T0) (tk : TBK s V) (ph : phI V = phI s) (i11 : V.i 11 = s.i 11) (i17 : V.i 17 = s.i 17) (i19 : V.i 19 = s.i 19) : COR d B b t0 (c :: L) x S' V ∧ S'.o = S.o ∧ S'.i 53 = S.i 53 := by
  obtain ⟨wi, wl, wb, wa, wf, wT, wb4, wbT⟩ := bkF.n (s := s) (u := V) (T0 := T0)
  obtain ⟨W, hW⟩ : ∃ y, y = bkF s V T0 := ⟨_, rfl⟩
  rw [← hW] at wi wl wb wa wf wT wb4 wbT
  clear hW
  have es : CKZ S S' ∧ (S'.i 38 = S.i 38 ∧ S'.i 53 = S.i 53 ∧ S'.i 56 = S.i 56) ∧ RTE S S' ∧ S'.o = S.o := by
    rcases hS' with z | z
    · rw [z]
      exact ⟨CKZ.rf S, ⟨rfl, rfl, rfl⟩, ⟨Int.le_refl _, Int.le_refl _, Int.le_refl _⟩, rfl⟩
    · rw [z]
      exact ⟨⟨rfl, fun _ _ => rfl, fun _ _ _ _ => ⟨rfl, rfl⟩, fun _ _ => rfl, Int.le_refl _, Int.le_refl _, fun _ _ => rfl, fun k h1 h2 => absurd (show (k : Int) < (S.i 55).toInt from h2) (by omega)⟩, ⟨rfl, rfl, rfl⟩, ⟨Int.le_refl _, Int.le_refl _, Int.le_refl _⟩, rfl⟩
  obtain ⟨ck, e3, rt, eo⟩ := es
  have phW : phI W = phI V := by
    unfold phI
    rw [wi]
  have evW : ENV d S' W := ev.kq (by rw [wi]) (by rw [wi]) (by rw [wi]) (by rw [wi]) (by rw [wi]) (by rw [wi]) (by rw [wi]) (wa 1 (by decide)) (wa 4 (by decide)) (wa 41 (by decide)) (wb 9 (by decide)) (wb 39 (by decide)) (by rw [wi]) (by rw [wi]) (by rw [wi]) (by rw [wi]) (by rw [wi]) (by rw [wi]) (by rw [wi]) wl ⟨by rw [wi]; exact ev.2.2.2.2.2.2.1, by rw [phW]; exact ev.2.2.2.2.2.2.2.1⟩ (ev.wp.of (by rw [wi]; exact Int.le_refl _) (by rw [wi]) (by rw [wi]) (by rw [wi]) (wa 58 (by decide)) (wa 62 (by decide)))
  have frW : FRB (T0 + 1) s W := fun j hj => by
    by_cases z : j = T0
    · rw [z]
      exact ⟨by rw [wa 64 (by decide)]; exact v64, wT 65 (by decide) (by decide), wT 66 (by decide) (by decide), wT 67 (by decide) (by decide), wT 68 (by decide) (by decide), wT 69 (by decide) (by decide), wT 70 (by decide) (by decide), wT 71 (by decide) (by decide), wT 72 (by decide) (by decide), wT 73 (by decide) (by decide), wbT⟩
    · obtain ⟨g0, g1, g2, g3, g4, g5, g6, g7, g8, g9, gb⟩ := f j (by omega)
      exact ⟨by rw [wf 64 j z]; exact g0, by rw [wf 65 j z]; exact g1, by rw [wf 66 j z]; exact g2, by rw [wf 67 j z]; exact g3, by rw [wf 68 j z]; exact g4, by rw [wf 69 j z]; exact g5, by rw [wf 70 j z]; exact g6, by rw [wf 71 j z]; exact g7, by rw [wf 72 j z]; exact g8, by rw [wf 73 j z]; exact g9, by rw [wb4 j z]; exact gb⟩
  have tkW : TBK V W := by
    refine ⟨⟨⟨by rw [wi], by rw [wi], by rw [wi], by rw [wi], by rw [wi], by rw [wi], by rw [wi], wa 1 (by decide), wa 4 (by decide), wb 9 (by decide)⟩, fun j _ => ⟨by rw [wb 39 (by decide)], by rw [wa 40 (by decide)], by rw [wa 41 (by decide)]⟩, fun j _ => ⟨by rw [wa 44 (by decide)], by rw [wb 45 (by decide)], by rw [wa 46 (by decide)], by rw [wa 47 (by decide)], by rw [wa 50 (by decide)], by rw [wa 51 (by decide)], by rw [wa 48 (by decide)], by rw [wa 49 (by decide)]⟩, fun j _ => ⟨by rw [wa 57 (by decide)], by rw [wa 58 (by decide)]⟩, ⟨by rw [wi]; exact Int.le_refl _, fun j k1 k2 => by rw [wi] at k2; omega⟩, fun j _ => ⟨by rw [wa 60 (by decide)], by rw [wa 61 (by decide)], by rw [wa 62 (by decide)]⟩, by rw [wi]; exact Int.le_refl _, fun j _ => by rw [wa 30 (by decide)], by rw [wi]; exact Int.le_refl _, fun j _ => ⟨by rw [wa 34 (by decide)], by rw [wa 37 (by decide)]⟩, by rw [wi]; exact Int.le_refl _, fun j _ => ⟨by rw [wa 25 (by decide)], by rw [wa 27 (by decide)], by rw [wa 28 (by decide)]⟩⟩, by rw [wi]; exact Int.le_refl _, fun j _ => by rw [wa 22 (by decide)]⟩
  have tk2 := tk.tr tkW
  obtain ⟨t1, t2, t3, t4, t5, t6, t7, t8, t9, t10⟩ := id tk2.1.1
  have n8 := h.2.2.2.2.2.2.2.2.1.2.1
  have hin := h.inl tp (T := T0 + 1) (by omega)
  have cW : COR d B b t0 (c :: L) x S' W := h.mv hin (by omega) evW frW tk2.1.r tk2.2 ⟨t1, t2, t3, t5, t6, t7, t8, t9, t10⟩ ck e3 rt ⟨by rw [wi, i11]; exact Int.le_refl _, by rw [phW, ph]; exact Int.le_refl _, by rw [wi, i17]; exact Int.le_refl _, by rw [wi, i19]⟩ (by rw [t4, wi, i11]; exact n8) (by rw [t4]; exact Int.le_refl _)
  have tpW : TOP S' W c := ⟨by rw [e3.2.1]; exact tp.1, by rw [t5, eo]; exact tp.2.1, by rw [t7, eo]; exact tp.2.2⟩
  exact ⟨cW.f0 tpW (by rw [eo]; exact n1) (by rw [eo]; exact n5) (by rw [eo]; exact hT0) hT ev ⟨wi.symm, wl.symm, fun k hk => (wb k hk).symm, fun j hj => (wb4 j hj).symm, fun k hk => (wa k hk).symm, fun k j hj => (wf k j hj).symm⟩, eo, e3.2.1⟩
theorem COR.iL {d : Int32} {B : CS} {b : RS} {t0 : Nat} {L : List CEL} {x : Int} {S : CS} {s : RS} {c : CEL} (h : COR d B b t0 (c :: L) x S s) (tp : TOP S s c) : INL S s (ceT c) L := by
  obtain ⟨m', e', k', -, lkl, stl⟩ := id h.2.1
  cases L with
  | nil => exact fun y hy => absurd hy List.not_mem_nil
  | cons c0 L1 =>
    obtain ⟨lk, lw⟩ := lkl c0 rfl
    have z := STK.inl L1 c0 _ _ _ stl (by have := tp.1; have := lk.1; omega) (by have := tp.2.1; have := lk.2.2.1; omega) (by have := tp.2.2; have := lk.2.2.2.1; omega)
    rw [← lk.2.1] at z
    exact z
theorem vw_v {S : CS} {s : RS} {c : CEL} : (vw S s c).v = S.o c.2.1 0 := rfl
theorem vw_2 {S : CS} {s : RS} {c : CEL} : (vw S s c).2.2 = (c.1, ceG c) := rfl
theorem vw_p {S S' : CS} {s s' : RS} {c : CEL} : (vw S' s' c).2.2 = (vw S s c).2.2 := vw_2.trans vw_2.symm
theorem d37 {S : CS} {v : Int32} : D38 S (CS.setI S 37 v) ∧ (CS.setI S 37 v).i 38 = S.i 38 ∧ (CS.setI S 37 v).i 36 = S.i 36 ∧ (CS.setI S 37 v).i 43 = S.i 43 ∧ (CS.setI S 37 v).a 48 = S.a 48 ∧ (CS.setI S 37 v).a 49 = S.a 49 := ⟨⟨⟨rfl, rfl, rfl, rfl, rfl⟩, rfl, rfl, rfl, rfl⟩, rfl, rfl, rfl, rfl, rfl⟩
theorem lst_j1 {B : CS} {b : RS} {V0 : List RVW} {S S' : CS} {s V U : RS} {Aj : JBA} (hS' : S' = S ∨ S' = CS.setI S 37 (S.i 44)) (vql : QLS s V) (jw : JRW Aj U B b V0 S s) : JRW Aj U B b V0 S' V := by
  have sS : D38 S S' ∧ S'.i 38 = S.i 38 ∧ S'.i 36 = S.i 36 ∧ S'.i 43 = S.i 43 ∧ S'.a 48 = S.a 48 ∧ S'.a 49 = S.a 49 := by
    rcases hS' with z | z
    · rw [z]
      exact ⟨D38.rf S, rfl, rfl, rfl, rfl, rfl⟩
    · rw [z]
      exact d37
  obtain ⟨ei, ea⟩ := vql
  exact jw.mv sS.1 sS.2.1 sS.2.2.1 sS.2.2.2.1 sS.2.2.2.2.1 sS.2.2.2.2.2 ⟨⟨ei 20 (by decide) (by decide), ei 24 (by decide) (by decide), ei 29 (by decide) (by decide), ei 33 (by decide) (by decide), ei 42 (by decide) (by decide)⟩, ea 21 (by decide), ea 22 (by decide), ea 23 (by decide), ea 25 (by decide), ea 26 (by decide), ea 27 (by decide), ea 28 (by decide), ea 30 (by decide), ea 31 (by decide), ea 32 (by decide), ea 34 (by decide), ea 35 (by decide), ea 36 (by decide), ea 37 (by decide)⟩ ⟨ei 38 (by decide) (by decide), ei 52 (by decide) (by decide), ei 11 (by decide) (by decide), ei 19 (by decide) (by decide), ei 43 (by decide) (by decide), ei 59 (by decide) (by decide)⟩ ⟨ea 40 (by decide), ea 47 (by decide), ea 48 (by decide), ea 49 (by decide), ea 50 (by decide), ea 51 (by decide), ea 60 (by decide), ea 61 (by decide), ea 62 (by decide)⟩
theorem lst_jw {d : Int32} {B : CS} {b : RS} {t0 T0 : Nat} {L : List CEL} {x : Int} {S S' : CS} {s V U : RS} {c : CEL} {Aj : JBA} (hC : COR d B b t0 (c :: L) x S s) (tp : TOP S s c) (bz : BAZ B b (c :: L)) (no1 : ¬ isOne (S.o c.2.1 0)) (n305 : ¬ S.o c.2.1 0 = 305) (hT0 : T0 + 1 = ceT c + wid (S.o c.2.1 0)) (hS' : S' = S ∨ S' = CS.setI S 37 (S.i 44)) (eo : S'.o = S.o) (frV : FRB T0 s V) (vql : QLS s V) (jw : JRW Aj U B b (vws S s (c :: L)) S s) : JRW Aj U B b (vws S' V (c :: L)) S' V := by
  have j1 : JRW Aj U B b (vws S s (c :: L)) S' V := lst_j1 hS' vql jw
  obtain ⟨ei, ea⟩ := vql
  by_cases w2 : 2 ≤ wid (S.o c.2.1 0)
  · have veq : vws S' V (c :: L) = vws S s (c :: L) := vws.eq (T := T0) (fun j _ => by rw [ea 40 (by decide)]) (c :: L) (fun y hy => hC.o3 y hy) (fun y _ => by rw [eo]) frV (fun y hy => by
      rcases List.mem_cons.mp hy with z | z
      · rw [z]
        omega
      · have z1 := (hC.iL tp y z).2.2.1
        have z2 := wid1 (S.o y.2.1 0)
        omega)
    rw [veq]
    exact j1
  · have c3 : S.o c.2.1 0 = 300 ∧ L = [] := by
      cases L with
      | nil =>
        obtain ⟨-, -, -, -, -, ⟨h7, h8, -⟩, h9⟩ := id bz
        have ez := (hC.2.2.2.2.1.2.1 c.1 c.2.1 (by omega) h8).1
        rcases h9 with ⟨-, z⟩ | ⟨-, -, z⟩
        · rw [← ez] at z
          have wd : wid (S.o c.2.1 0) = 2 := by rw [z]; rfl
          omega
        · rw [← ez] at z
          exact ⟨z, rfl⟩
      | cons c2 L2 =>
        exfalso
        obtain ⟨m', e', k', g1, g2, g3⟩ := id hC.2.1
        have ks := (g2 c2 rfl).1.2.2.2.2.2.2.2.2
        rcases ks with y | (y | y | y | y) | y | y | y
        · exact no1 y
        · have wd : wid (S.o c.2.1 0) = 3 := by rw [y]; rfl
          omega
        · have wd : wid (S.o c.2.1 0) = 3 := by rw [y]; rfl
          omega
        · exact n305 y
        · have wd : wid (S.o c.2.1 0) = 3 := by rw [y]; rfl
          omega
        · have wd : wid (S.o c.2.1 0) = 2 := by rw [y]; rfl
          omega
        · have wd : wid (S.o c.2.1 0) = 2 := by rw [y]; rfl
          omega
        · have wd : wid (S.o c.2.1 0) = 3 := by rw [y]; rfl
          omega
    obtain ⟨c3, hL⟩ := c3
    rw [hL] at j1 ⊢
    exact JRW.r0 (r := vw S s c) (r' := vw S' V c) j1 (by
      show (fun k : Nat => if k = 5 then (0 : Int32) else S'.o c.2.1 k) = (fun k : Nat => if k = 5 then (0 : Int32) else S.o c.2.1 k)
      rw [eo]) vw_p (vw_v.trans c3)
theorem tn_list {N : Nat} (hN : 1000 ≤ N) {E1 : CS → Option (Unit × CS)} {E2 : CS → Option (Int32 × CS)} (hm1 : ∀ σ, Kf (CS.i σ 32) (E1 σ)) (hm2 : ∀ σ, Kf (CS.i σ 32) (E2 σ)) (hE : SXR N 18 E1) (hE2 : SXN N 22 E2) {d : Int32} {B : CS} {b : RS} {t0 T0 n : Nat} {L : List CEL} {x : Int} {S : CS} {s U : RS} {c : CEL} {R : Unit × CS} {Aj : JBA} (hY : YBA Aj U B b) (hC : COR d B b t0 (c :: L) x S s) (tp : TOP S s c) (hM : MLI c S s) (h36 : S.i 36 = 0 ∨ S.i 36 = 1) (bz : BAZ B b (c :: L)) (hT0 : T0 + 1 = ceT c + wid (S.o c.2.1 0)) (hT : t0 ≤ T0) (n125 : ¬ S.i 43 = 125) (n219 : ¬ S.i 43 = 219) (n220 : ¬ S.i 43 = 220) (n0 : ¬ S.i 43 = 0) (e : f_X7_statement N E1 E2 S 0 = some R) (g : f_X12_parse_10 N n s = some U) : OUTS N d B b t0 (T0 + 1) c L x R.2 U (JTR Aj U B b (c :: L) S s) := by
  obtain ⟨no1, n305, ts, h64, hmode, h65⟩ := hM
  have hv := hC.1
  have ix : ceT c + wid (S.o c.2.1 0) - 1 = T0 := by omega
  rw [ix] at h64 hmode
  have ts' : tpI s = (T0 : Int) := by
    rw [ts]
    omega
  have q125 : ¬ s.i 10 = 125 := fun z => n125 ((tk_is hv (a := 125) (b := 125) (Or.inl ⟨by decide, by decide⟩) (by decide)).mpr z)
  have q429 : ¬ s.i 10 = 429 := fun z => n219 ((tk_is hv (a := 219) (b := 429) (Or.inr ⟨by decide, by decide⟩) (by decide)).mpr z)
  have q430 : ¬ s.i 10 = 430 := fun z => n220 ((tk_is hv (a := 220) (b := 430) (Or.inr ⟨by decide, by decide⟩) (by decide)).mpr z)
  have q0 : ¬ s.i 10 = 0 := fun z => n0 ((tk_is hv (a := 0) (b := 0) (Or.inl ⟨by decide, by decide⟩) (by decide)).mpr z)
  obtain ⟨S', m, V, hS', e18, gV, evV, tV, v64, v65, v641, v651, frV, tkV, vph, v11, v17, v19, vql⟩ := y_list hN hv ts' h64 hmode h36 q125 q429 q430 q0 e g
  obtain ⟨hC', eo, e53⟩ := hC.lst tp no1 n305 hT0 hT hS' evV frV (v64.trans h64.symm) tkV vph v11 v17 v19
  have c0 : S'.o c.2.1 0 = S.o c.2.1 0 := by rw [eo]
  obtain ⟨t1, t2, t3, t4, t5, t6, t7, t8, t9, t10⟩ := tkV.1.1
  have tpV : TOP S' V c := ⟨by rw [e53]; exact tp.1, by rw [t5, c0]; exact tp.2.1, by rw [t7, c0]; exact tp.2.2⟩
  have lwV : LOW S' V c := by
    refine ⟨by rw [c0]; exact n305, fun z => ?_, fun _ => ?_, fun z => ?_⟩
    · rw [c0] at z
      have wd : wid (S.o c.2.1 0) = 2 := by rw [z]; rfl
      have e1 : T0 = ceT c + 1 := by omega
      refine ⟨by rw [(frV (ceT c) (by omega)).2.1]; exact (h65 z).1, ?_⟩
      rw [← e1]
      exact v64
    · rw [c0, ix]
      exact ⟨v65, v64⟩
    · rw [c0] at z
      rw [eo]
      exact (h65 (z.resolve_left no1)).2
  have t53 := tpV.1
  obtain ⟨r1, r2, r3, r4, r5⟩ := BAZ.all hC'.2.2.2.2.1 L c _ _ _ bz hC'.2.1 (by omega)
  have n1' : ¬ isOne (S'.o c.2.1 0) := by rw [c0]; exact no1
  refine OUTS.mj (st_any hN hm1 hm2 hE hE2 hY hC' ⟨tpV, lwV, by rw [c0]; exact hT0, tV, v641, v651⟩ (by omega) (fun z => absurd z n1') (fun z => absurd (show isOne (S'.o c.2.1 0) by rw [z]; unfold isOne; decide) n1') r1 r2 r3 (fun z => absurd z n1') (Or.inl rfl) e18 gV) (fun V' R' u' h ku jw => h (show KU3 U V from ⟨ku.1.trans (vql.1 3 (by decide) (by decide)).symm, ku.2⟩) (lst_jw hC tp bz no1 n305 hT0 hS' eo frV vql jw))
