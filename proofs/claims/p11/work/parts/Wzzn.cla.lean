/-! both readers: a label's row more -/
set_option maxHeartbeats 4000000 in
theorem COR.lab {d : Int32} {B : CS} {b : RS} {t0 T : Nat} {L : List CEL} {x x' xn p f k y z : Int} {S P R : CS} {s q u : RS} {c : CEL} {a m : Nat} {x3 : Int32} (hC : COR d B b t0 (c :: L) x S s) (q1 : TOP S s c) (q2 : LOW S s c) (q3 : T = ceT c + wid (S.o c.2.1 0)) (hT : t0 ≤ T) (hm : NMC c S) (w : WAX d T p f k y z S s P q) (hp : 0 ≤ p) (sq : PSQ P R a m 303 x3) (g3 : R.o a 3 = S.i 50) (x38 : R.i 38 = P.i 38) (fu : FRB T q u) (tu : TBR (s46 q (u.a 46)) u) (cu : CDK (q.i 20).toInt q u) (nu : u.i 2 = q.i 2 ∧ u.i 3 = q.i 3 ∧ u.i 8 = q.i 8 ∧ u.i 38 = q.i 38 ∧ u.a 1 = q.a 1 ∧ u.a 4 = q.a 4 ∧ u.b 9 = q.b 9) (e43 : (u.i 43).toInt = (q.i 43).toInt + 1) (e56 : u.i 56 = q.i 56) (ev : ENV d R u) (nn : (q.i 11).toInt ≤ (u.i 11).toInt ∧ phI s ≤ phI u ∧ (q.i 17).toInt ≤ (u.i 17).toInt ∧ (u.i 19).toInt = (s.i 19).toInt) (n21 : (R.i 21).toInt + 2 * (s.i 11).toInt ≤ (S.i 21).toInt + 2 * (u.i 11).toInt) (n54 : (R.i 54).toInt + (s.i 11).toInt ≤ (S.i 54).toInt + (u.i 11).toInt) (up : u.i 59 = q.i 59 ∧ u.a 60 = q.a 60 ∧ u.a 61 = q.a 61 ∧ u.a 62 = q.a 62) (lbx : LBC S (s46 s (u.a 46)) (c :: L) x') (hb46 : ∀ j : Nat, (j : Int) < (b.i 43).toInt → u.a 46 j = s.a 46 j) (ng : ∀ g : Nat, (q.i 43).toInt = (g : Int) → u.a 44 g = 2 ∧ u.b 45 g = R.ol a ∧ (u.a 46 g).toInt = xn ∧ (u.a 48 g = -1 ∧ u.a 49 g = -1) ∧ u.a 50 g = 0 ∧ u.a 51 g = 0) (hxn : x' = (if xn = -1 then -2 else xn)) (frm : u.a 64 T = 5 ∧ u.a 65 T = 1 ∧ (u.a 66 T).toInt = (q.i 43).toInt) : ∃ c1 : CEL, COR d B b t0 (c1 :: c :: L) xn R u ∧ TOP R u c1 ∧ c1.2.1 = a ∧ ceT c1 = T := by
  obtain ⟨w1, w2, wf, ⟨wt, wcd, wn⟩, wz, ⟨j38, j53, j56, j36⟩, ⟨n11, nph, n17, n19⟩, ⟨-, -, n55⟩, ⟨l38, l8⟩⟩ := w
  obtain ⟨nm1, nm2, nm3, nm4, nm5, nm6, nm7, nm8, nm9⟩ := wn
  obtain ⟨nu1, nu2, nu3, nu4, nu5, nu6, nu7⟩ := nu
  have hin := hC.inl q1 q3
  obtain ⟨zX, ⟨r53, r54, r55, r52⟩, ⟨r50, r56, r36⟩, ⟨m1', m2', rr1⟩, ⟨g0, g1', -, g14⟩, -⟩ := id sq
  have hv0 := hC.1
  have t1 := q1.2.1
  have t2 := q1.2.2
  have s43 : (q.i 43).toInt = (s.i 43).toInt := by rw [nm4]
  -- where the statement began, with the labels' loops as they will be
  have hC' : COR d B b t0 (c :: L) x' S (s46 s (u.a 46)) := hC.e46 s46.e (fun j hj => by
    rw [s46.at]
    exact hb46 j hj) lbx
  have hin' : INL S (s46 s (u.a 46)) T (c :: L) := hin.mv ⟨rfl, fun _ _ => rfl, fun _ _ _ _ => ⟨rfl, rfl⟩, fun _ _ => rfl, Int.le_refl _, Int.le_refl _, fun _ _ => rfl, fun k h1 h2 => by omega⟩ rfl rfl rfl
  have fr1 : FRB T s u := wf.tr fu
  have tb0 : TBR (s46 s (u.a 46)) (s46 q (u.a 46)) := by
    have z := wt.e46 (s46.e (s := q) (f := u.a 46))
    rw [s46.at] at z
    exact z
  have tb : TBR (s46 s (u.a 46)) u := tb0.tr tu l38 (by show (s.i 43).toInt ≤ (q.i 43).toInt; omega) (by show (s.i 56).toInt ≤ (q.i 56).toInt; rw [nm6]; exact Int.le_refl _)
  have cd1 : CDK (s.i 20).toInt s u := wcd.tr (cu.wk wcd.1)
  have cd' : CDK ((s46 s (u.a 46)).i 20).toInt (s46 s (u.a 46)) u := ⟨cd1.1, fun j hj => (cd1.2 j hj).trans (by
    show s.a 22 j = (s46 s (u.a 46)).a 22 j
    rw [s46.e.2.2.2 22 (by decide)])⟩
  have ckall : CKZ S R := wz.tr j53 zX
  have eo := (hin.o ckall c List.mem_cons_self).1
  have low : LOW R u c := q2.mv eo fr1 (by omega)
  have z44 : S.i 44 = s.i 11 := hv0.1.2.2.2.1.1
  have z45 : R.i 44 = u.i 11 := ev.1.2.2.2.1.1
  have rte : RTE S R := by
    unfold RTE
    rw [z44, z45, r55]
    exact ⟨n21, n54, by omega⟩
  obtain ⟨sj1, sj2, sj3, sj4, sj5, sj6⟩ := id w1.sj
  have hi11 := i11_hi w1
  have hinP : INL P q T (c :: L) := hin.mv wz j53 nm4 nm6
  have eoP : ∀ y ∈ c :: L, P.o y.2.1 = S.o y.2.1 := fun y hy => (hin.o wz y hy).1
  have eP : ∀ y ∈ c :: L, R.o y.2.1 = P.o y.2.1 := fun y hy => (hinP.o zX y hy).1
  obtain ⟨b29, b30, b0, col, hc⟩ := id hC.2.2.2.2.2.2.2.2.2.2
  have jP : JMQ P q (c :: L) (b.i 59).toInt (b.i 29).toInt := hC.2.2.1.mv b29 hv0.sj.1 hin wz wf wt
  have jp := hC.jp
  obtain ⟨-, -, -, -, -, -, j7, -⟩ := id jP
  obtain ⟨k1, k2, k3, k4, k5⟩ := j7 c List.mem_cons_self
  rw [eoP c List.mem_cons_self] at k1 k2 k3 k4 k5
  have lo29 : (s.i 29).toInt ≤ (q.i 29).toInt := wt.2.2.2.2.2.1
  have t21 := hC.2.2.2.2.2.2.2.2.1.1
  have q54 := hC.2.2.2.2.2.2.2.2.1.2.2
  have n8 := hC.2.2.2.2.2.2.2.2.1.2.1
  have h8 := l8 n8
  have o1i : (R.o a 1).toInt = (P.i 54).toInt + 1 := by rw [g1', ad1 sj1 (by omega)]
  obtain ⟨g, hg⟩ : ∃ g : Nat, (q.i 43).toInt = (g : Int) := ⟨(q.i 43).toInt.toNat, by have := w1.wp.1.1; omega⟩
  obtain ⟨y44, y45, y46, ⟨y48, y49⟩, y50, y51⟩ := ng g hg
  have em1 : (-1 : Int32).toInt = -1 := by decide
  obtain ⟨c1, hc1⟩ : ∃ c1 : CEL, c1 = (c.1 + 1, a, T, g, ceW c + nWl (S.o c.2.1 0)) := ⟨_, rfl⟩
  have v1 : c1.1 = c.1 + 1 := by rw [hc1]
  have v2 : c1.2.1 = a := by rw [hc1]
  have v3 : ceT c1 = T := by rw [hc1]; rfl
  have v4' : ceG c1 = g := by rw [hc1]; rfl
  have v4 : ceG c1 = ceG c + nGo (S.o c.2.1 0) := by rw [v4']; omega
  have v5 : ceW c1 = ceW c + nWl (S.o c.2.1 0) := by rw [hc1]; rfl
  clear hc1
  have em2 : m = c.1 + 1 := by
    have a1 := q1.1
    rw [j53] at m1'
    omega
  have s20 : 0 ≤ (s.i 20).toInt := by
    have := hC.2.2.2.2.2.1.2.2.1.1
    omega
  have iar : IAR R u := by
    obtain ⟨⟨z1, z2⟩, z3⟩ := hC.2.2.2.2.2.2.2.2.2.1
    have e56' : R.i 56 = S.i 56 := r56.trans j56
    unfold IAR
    rw [e56']
    refine ⟨⟨fun z => ?_, fun z => ?_⟩, fun z => ?_⟩
    · obtain ⟨g', w1, w2⟩ := z1 z
      have y1 := tb.2.1 g' w1
      have y2 : (s46 s (u.a 46)).a 44 g' = s.a 44 g' := by rw [s46.e.2.2.2 44 (by decide)]
      exact ⟨g', by omega, (y1.1.trans y2).trans w2⟩
    · obtain ⟨g', w1, w2⟩ := z
      by_cases cg : (g' : Int) < (s.i 43).toInt
      · have y1 := tb.2.1 g' cg
        have y2 : (s46 s (u.a 46)).a 44 g' = s.a 44 g' := by rw [s46.e.2.2.2 44 (by decide)]
        exact z2 ⟨g', cg, (y1.1.trans y2).symm.trans w2⟩
      · have eg : g' = g := by omega
        rw [eg, y44] at w2
        exact absurd w2 (by decide)
    · obtain ⟨w1, w2, a', w3⟩ := z3 z
      exact ⟨by rw [r53, j53]; omega, w2, a', (ckall.2.1 _ (by omega)).trans w3⟩
  have hcol : ∃ col : Nat → Option (Nat × Bool), COL R u (c1 :: c :: L) col (b.i 20).toInt := by
    refine ⟨col, ((hc.e46 (s46.e (f := u.a 46))).mv b0 hin' ckall fr1.e46l tb cd').addg (fun _ => ?_) (by rw [v2, g0]; decide) (fun kk z => ?_)⟩
    · rw [v4', y48, y49, em1]
      exact ⟨by omega, by omega⟩
    · exfalso
      unfold PLF at z
      rw [v2, g0] at z
      rcases z with ⟨z | z, -⟩ | ⟨z, -⟩ | ⟨z | z, -⟩ <;> exact absurd z (by decide)
  have lb : LBC R u (c :: L) x' := LBC.mv (c :: L) _ lbx (fun y hy => (hin.o ckall y hy).1) (fun y hy h => by rw [s46.at])
  have isg : isGo (R.o a 0) := by
    rw [g0]
    exact Or.inl rfl
  have nw : ¬ isWl (R.o a 0) := by
    rw [g0]
    unfold isWl
    decide
  have nt : ¬ isTy (R.o a 0) := by
    rw [g0]
    unfold isTy
    decide
  refine ⟨c1, hC'.push hin' hT ev fr1.e46l tb cd' ⟨?_, ?_, ?_, ?_, ?_, ?_⟩ (by show (s.i 43).toInt ≤ (u.i 43).toInt; omega) (by show (s.i 56).toInt ≤ (u.i 56).toInt; rw [e56, nm6]; exact Int.le_refl _) ckall jP hinP eP fu (fun y hy hgo bb => ?_) ⟨by have := jp.1.1; omega, fun y hy ty => ?_, w1.wp.2⟩ ⟨sj1, sj3⟩ r54 r55 r52 (by rw [v2, g0, x38, j38]; show _ = _ + ((0 : Nat) : Int); omega) (by rw [r53, j53]; omega) rte ⟨?_, ?_, ?_, ?_⟩ (by omega) (by omega) (by rw [nu4]; omega) (by show (s.i 38).toInt ≤ (u.i 38).toInt; rw [nu4]; exact l38) up.1 up.2.1 up.2.2.1 up.2.2.2 (CST.pl (by rw [v1, v2, ← em2]; exact rr1) (by rw [v1]; omega) (by rw [v2, v3, v4']; exact RFR.m303 g0 ⟨frm.1, frm.2.1, frm.2.2.trans hg, y44, y45⟩) (by rw [v2, g0]; decide) (by rw [v2]; exact nt)) ⟨v1, by rw [v3, eo]; exact q3, by rw [v4, eo], by rw [v5, eo], by rw [v2, eo, o1i]; omega, by rw [v2, eo, g14]; exact k4, fun w => by rw [v2, eo, g14]; rw [eo] at w; exact (k5 w).2, fun w1 w2 w3 => by rw [v2, eo, g3]; rw [eo] at w1 w2 w3; exact hm w1 w2 w3, by rw [v2, g0]; unfold isKS isOne isTy; decide⟩ low ?_ iar hcol (by rw [v2]; exact o1i) (by rw [v2]; exact g14) (by rw [v2, g0]; decide) (fun _ bb => ?_) (fun w => absurd w (by rw [v2]; exact nt)) (r56.trans j56) (by rw [v2]; exact g3), ⟨?_, ?_, ?_⟩, v2, v3⟩
  · exact nu1.trans nm1
  · exact nu2.trans nm2
  · exact nu3.trans nm3
  · rw [s46.e.2.2.2 1 (by decide)]
    exact nu5.trans nm7
  · rw [s46.e.2.2.2 4 (by decide)]
    exact nu6.trans nm8
  · exact nu7.trans nm9
  · have lt := (hinP y hy).2.2.2.1 hgo
    have w' := tu.2.1 (ceG y) lt
    unfold flg
    rw [w'.2.2.2.2.1, w'.2.2.2.2.2.1, s46.e.2.2.2 50 (by decide), s46.e.2.2.2 51 (by decide)]
  · rw [eoP y hy] at ty
    have w1 := wid1 (S.o y.2.1 0)
    have w2 := (hin y hy).2.2.1
    rw [(wf (ceT y) (by omega)).2.2.1]
    have := jp.1.2.1 y hy ty
    omega
  · show (s.i 11).toInt ≤ (u.i 11).toInt
    omega
  · show phI s + dbt (R.o c1.2.1 0) ≤ phI u
    rw [v2, g0]
    show phI s + 0 ≤ phI u
    omega
  · show (s.i 17).toInt ≤ (u.i 17).toInt
    omega
  · show (u.i 19).toInt = (s.i 19).toInt + (nSg (R.o c1.2.1 0) : Int)
    rw [v2, g0]
    show (u.i 19).toInt = (s.i 19).toInt + ((0 : Nat) : Int)
    have := nn.2.2.2
    omega
  · unfold LBC
    rw [v2, if_pos g0, v4']
    refine ⟨Or.inr y46, ?_⟩
    rw [← hxn]
    exact lb
  · unfold flg
    rw [v4', y50, y51]
    by_cases z : bb = 0
    · exact if_pos z
    · exact if_neg z
  · rw [r53, j53, v1]
    have := q1.1
    omega
  · rw [v2, v4', nGo1 isg, e43, hg]
    omega
  · rw [v2, v5, nWl.eq nw, e56, nm6, q1.2.2]
    omega
