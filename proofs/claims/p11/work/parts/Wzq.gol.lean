/-! both readers: a loop's row is pushed -/
theorem FRB.e46l {T : Nat} {s u : RS} {f : Nat → Int32} (h : FRB T s u) : FRB T (s46 s f) u := fun j hj => by
  have sa : ∀ k : Nat, k ≠ 46 → (s46 s f).a k = s.a k := fun k hk => if_neg hk
  rw [sa 64 (by decide), sa 65 (by decide), sa 66 (by decide), sa 67 (by decide), sa 68 (by decide), sa 69 (by decide), sa 70 (by decide), sa 71 (by decide), sa 72 (by decide), sa 73 (by decide)]
  exact h j hj
theorem INL.mv {S P : CS} {s q : RS} {T : Nat} {L : List CEL} (h : INL S s T L) (ck : CKZ S P) (e53 : P.i 53 = S.i 53) (e43 : q.i 43 = s.i 43) (e56 : q.i 56 = s.i 56) : INL P q T L := fun y hy => by
  obtain ⟨h1, h2, h3, h4, h5⟩ := h y hy
  rw [(h.o ck y hy).1, e53, e43, e56]
  exact ⟨h1, (ck.2.1 _ h1).trans h2, h3, h4, h5⟩
/-- as TBK, but the depth may be other -/
def TBY (s u : RS) : Prop := (u.i 2 = s.i 2 ∧ u.i 3 = s.i 3 ∧ u.i 8 = s.i 8 ∧ u.i 38 = s.i 38 ∧ u.i 43 = s.i 43 ∧ True ∧ u.i 56 = s.i 56 ∧ u.a 1 = s.a 1 ∧ u.a 4 = s.a 4 ∧ u.b 9 = s.b 9) ∧ TBR s u
def TBK9 (s u : RS) : Prop := TBY s u ∧ CDK (s.i 20).toInt s u
theorem TBY.r {s u : RS} (h : TBY s u) : TBR s u := h.2
theorem TBK.t9 {s u : RS} (h : TBK s u) : TBK9 s u := by
  obtain ⟨⟨⟨a1, a2, a3, a4, a5, a6, a7, a8, a9, a10⟩, r⟩, c⟩ := h
  exact ⟨⟨⟨a1, a2, a3, a4, a5, trivial, a7, a8, a9, a10⟩, r⟩, c⟩
set_option maxHeartbeats 4000000 in
theorem COR.gol {N : Nat} {d : Int32} {B : CS} {b : RS} {t0 T : Nat} {L : List CEL} {x p f k y z : Int} {S P R : CS} {s q q' u : RS} {c : CEL} {G : Int32 × RS} {a m : Nat} {v x3 : Int32} (hC : COR d B b t0 (c :: L) x S s) (q1 : TOP S s c) (q2 : LOW S s c) (q3 : T = ceT c + wid (S.o c.2.1 0)) (hT : t0 ≤ T) (hm : NMC c S) (hx : S.o c.2.1 0 = 303 → x = -3) (hB : BOT b S (c :: L)) (w : WAZ d T p f k y z S s P q) (hp : 0 ≤ p) (hv : v = 205 ∨ v = 206 ∨ v = 207 ∨ v = 304) (sq : PSQ P R a m v x3) (g3 : R.o a 3 = S.i 50) (x38 : R.i 38 = P.i 38) (fq' : FRB T q q') (tq' : TBK9 q q') (hG : f_X12_loopGoal N q' = some G) (ev : ENV d R u) (fu : FRB T G.2 u) (tu : TBK G.2 u) (nn : (q.i 11).toInt ≤ (u.i 11).toInt ∧ phI s + dbt v ≤ phI u ∧ (q.i 17).toInt ≤ (u.i 17).toInt ∧ (u.i 19).toInt = (s.i 19).toInt) (n21 : (R.i 21).toInt + 2 * (s.i 11).toInt ≤ (S.i 21).toInt + 2 * (u.i 11).toInt) (n54 : (R.i 54).toInt + (s.i 11).toInt ≤ (S.i 54).toInt + (u.i 11).toInt) (up : q'.i 59 = q.i 59 ∧ q'.a 60 = q.a 60 ∧ q'.a 61 = q.a 61 ∧ q'.a 62 = q.a 62) (up' : u.i 59 = G.2.i 59 ∧ u.a 60 = G.2.a 60 ∧ u.a 61 = G.2.a 61 ∧ u.a 62 = G.2.a 62) (rfr : G.1 = q'.i 43 → ∀ g w : Nat, G.1.toInt = (g : Int) → u.a 44 g = 0 → RFR R u a T g w) (plf : ∀ (c1 : CEL) (k : Int), c1.2.1 = a → ceT c1 = T → PLF R u c1 k → (s.i 20).toInt ≤ k ∧ k < (u.i 20).toInt) : ∃ c1 : CEL, COR d B b t0 (c1 :: c :: L) (-9) R u ∧ TOP R u c1 ∧ c1.2.1 = a ∧ ceT c1 = T := by
  obtain ⟨w1, w2, wf, ⟨wt, wcd, wn⟩, wz, ⟨j38, j53, j56, j36⟩, ⟨n11, nph, n17, n19⟩, ⟨-, -, n55⟩, ⟨l38, l8⟩⟩ := w
  obtain ⟨nm1, nm2, nm3, nm4, nm5, nm6, nm7, nm8, nm9⟩ := wn
  have hin := hC.inl q1 q3
  obtain ⟨zX, ⟨r53, r54, r55, r52⟩, ⟨r50, r56, r36⟩, ⟨m1', m2', rr1⟩, ⟨g0, g1', -, g14⟩, -⟩ := id sq
  have hv0 := hC.1
  -- the goal and the walk
  unfold f_X12_loopGoal at hG
  obtain ⟨o, ho, hG⟩ := hf_bind hG
  obtain ⟨o1, oa⟩ := g_goa ho
  obtain ⟨b1, b2, b3, b4, b5, b6, ⟨b7, b8, b9⟩, b10⟩ := id oa
  have z43 : q'.i 43 = s.i 43 := tq'.1.1.2.2.2.2.1.trans nm4
  have t1 := q1.2.1
  have e1m : (o.1 - 1).toInt = (s.i 43).toInt - 1 := by
    have e1 : (1 : Int32).toInt = 1 := by decide
    have b7' : 0 ≤ (s.i 43).toInt := by rw [← z43]; exact b7
    have b8' : (s.i 43).toInt < 460 := by rw [← z43]; exact b8
    rw [o1, z43, toInt_sub] <;> rw [e1] <;> omega
  have og : 0 ≤ o.1.toInt := by rw [o1]; exact b7
  have ag : ∀ i : Nat, (i : Int) ≤ (o.1 - 1).toInt → o.2.a 44 i = s.a 44 i ∧ o.2.a 46 i = s.a 46 i := fun i hi => by
    have h1 : (i : Int) < (q'.i 43).toInt := by rw [z43]; omega
    have h2 : (i : Int) < (q.i 43).toInt := by rw [nm4]; omega
    have h3 : (i : Int) < (s.i 43).toInt := by omega
    have y1 := tq'.1.2.2.1 i h2
    have y2 := wt.2.1 i h3
    exact ⟨(b4 44 i h1).trans (y1.1.trans y2.1), (b4 46 i h1).trans (y1.2.2.1.trans y2.2.2.1)⟩
  obtain ⟨G1, ge, glb, gk⟩ := y_walk og N L c _ _ _ x o.2 (o.1 - 1) G hC.2.1 hC.2.2.2.1 hx hB hC.2.2.2.2.2.1.2.1 (by omega) ag hG
  obtain ⟨ei, el, eb, ea⟩ := id ge
  -- where the statement began, with the labels' loops as they will be
  have lbs : LBC S (s46 s (G.2.a 46)) (c :: L) o.1.toInt := LBC.mv (c :: L) _ glb (fun _ _ => rfl) (fun y _ _ => by rw [s46.at])
  have b43 : (b.i 43).toInt ≤ (s.i 43).toInt := hC.2.2.2.2.2.1.2.1.2.1
  have hC' : COR d B b t0 (c :: L) o.1.toInt S (s46 s (G.2.a 46)) := hC.e46 s46.e (fun j hj => by
    rw [s46.at, gk j (Or.inl hj)]
    exact (ag j (by omega)).2) lbs
  have hin' : INL S (s46 s (G.2.a 46)) T (c :: L) := hin.mv ⟨rfl, fun _ _ => rfl, fun _ _ _ _ => ⟨rfl, rfl⟩, fun _ _ => rfl, Int.le_refl _, Int.le_refl _, fun _ _ => rfl, fun k h1 h2 => by omega⟩ rfl rfl rfl
  have i43u : u.i 43 = G.2.i 43 := tu.1.1.2.2.2.2.1
  have i43G : (u.i 43).toInt = (s.i 43).toInt + 1 := by rw [i43u, ei, b9, z43]
  have i56u : u.i 56 = s.i 56 := by rw [tu.1.1.2.2.2.2.2.2.1, ei, b1 56 (by decide), tq'.1.1.2.2.2.2.2.2.1, nm6]
  have i38q : q'.i 38 = q.i 38 := tq'.1.1.2.2.2.1
  have i38u : u.i 38 = q.i 38 := by rw [tu.1.1.2.2.2.1, ei, b1 38 (by decide), i38q]
  have fr1 : FRB T s u := by
    have fG : FRB T o.2 G.2 := fun j hj => by
      rw [ea 64 (by decide), ea 65 (by decide), ea 66 (by decide), ea 67 (by decide), ea 68 (by decide), ea 69 (by decide), ea 70 (by decide), ea 71 (by decide), ea 72 (by decide), ea 73 (by decide), eb]
      exact ⟨rfl, rfl, rfl, rfl, rfl, rfl, rfl, rfl, rfl, rfl, rfl⟩
    exact (((wf.tr fq').tr (oa.frb T)).tr fG).tr fu
  have fP : FRB T q u := by
    have fG : FRB T o.2 G.2 := fun j hj => by
      rw [ea 64 (by decide), ea 65 (by decide), ea 66 (by decide), ea 67 (by decide), ea 68 (by decide), ea 69 (by decide), ea 70 (by decide), ea 71 (by decide), ea 72 (by decide), ea 73 (by decide), eb]
      exact ⟨rfl, rfl, rfl, rfl, rfl, rfl, rfl, rfl, rfl, rfl, rfl⟩
    exact ((fq'.tr (oa.frb T)).tr fG).tr fu
  have tbx : TBR s o.2 := (wt.tr tq'.1.r l38 (by rw [nm4]; exact Int.le_refl _) (by rw [nm6]; exact Int.le_refl _)).tr oa.tbr (by rw [i38q]; exact l38) (by rw [z43]; exact Int.le_refl _) (by rw [tq'.1.1.2.2.2.2.2.2.1, nm6]; exact Int.le_refl _)
  have tb' : TBR (s46 s (G.2.a 46)) u := (tbx.e46 ge).tr tu.1.r (by show (s.i 38).toInt ≤ (G.2.i 38).toInt; rw [ei, b1 38 (by decide), i38q]; exact l38) (by show (s.i 43).toInt ≤ (G.2.i 43).toInt; rw [ei, b9, z43]; omega) (by show (s.i 56).toInt ≤ (G.2.i 56).toInt; rw [ei, b1 56 (by decide), tq'.1.1.2.2.2.2.2.2.1, nm6]; exact Int.le_refl _)
  have cd1 : CDK (s.i 20).toInt s u := by
    have g20 : G.2.i 20 = q'.i 20 := by rw [ei, b1 20 (by decide)]
    have c1 := wcd.1
    have c2 := tq'.2.1
    have c3 := tu.2.1
    rw [g20] at c3
    refine ⟨by omega, fun j hj => ?_⟩
    rw [tu.2.2 j (by rw [g20]; omega), ea 22 (by decide), b3 22 (by decide), tq'.2.2 j (by omega), wcd.2 j hj]
  have cd' : CDK ((s46 s (G.2.a 46)).i 20).toInt (s46 s (G.2.a 46)) u := ⟨cd1.1, fun j hj => (cd1.2 j hj).trans (by
    show s.a 22 j = (s46 s (G.2.a 46)).a 22 j
    rw [s46.e.2.2.2 22 (by decide)])⟩
  -- numbers, the class
  have ckall : CKZ S R := wz.tr j53 zX
  have eo := (hin.o ckall c List.mem_cons_self).1
  have low : LOW R u c := q2.mv eo fr1 (by omega)
  have z44 : S.i 44 = s.i 11 := hv0.1.2.2.2.1.1
  have z45 : R.i 44 = u.i 11 := ev.1.2.2.2.1.1
  have rte : RTE S R := by
    unfold RTE
    rw [z44, z45, r55]
    exact ⟨n21, n54, by omega⟩
  obtain ⟨sj1, sj2, sj3, sj4, sj5, sj6⟩ := id w1.sj
  have hi11 := i11_hi w1
  have hinP : INL P q T (c :: L) := hin.mv wz j53 nm4 nm6
  have eoP : ∀ y ∈ c :: L, P.o y.2.1 = S.o y.2.1 := fun y hy => (hin.o wz y hy).1
  have eP : ∀ y ∈ c :: L, R.o y.2.1 = P.o y.2.1 := fun y hy => (hinP.o zX y hy).1
  obtain ⟨b29, b30, b0, col, hc⟩ := id hC.2.2.2.2.2.2.2.2.2.2
  have jP : JMQ P q (c :: L) (b.i 59).toInt (b.i 29).toInt := hC.2.2.1.mv b29 hv0.sj.1 hin wz wf wt
  have jp := hC.jp
  obtain ⟨-, -, -, -, -, -, j7, -⟩ := id jP
  obtain ⟨k1, k2, k3, k4, k5⟩ := j7 c List.mem_cons_self
  rw [eoP c List.mem_cons_self] at k1 k2 k3 k4 k5
  have lo29 : (s.i 29).toInt ≤ (q.i 29).toInt := wt.2.2.2.2.2.1
  have t21 := hC.2.2.2.2.2.2.2.2.1.1
  have q54 := hC.2.2.2.2.2.2.2.2.1.2.2
  have n8 := hC.2.2.2.2.2.2.2.2.1.2.1
  have h8 := l8 n8
  have o1i : (R.o a 1).toInt = (P.i 54).toInt + 1 := by rw [g1', ad1 sj1 (by omega)]
  -- the new goal
  obtain ⟨g, hg⟩ : ∃ g : Nat, (s.i 43).toInt = (g : Int) := ⟨(s.i 43).toInt.toNat, by rw [z43] at b7; omega⟩
  obtain ⟨⟨x44, x45⟩, ⟨x46, x48, x49⟩, x50, x51⟩ := b10 g (by rw [z43]; exact hg)
  have gG : (g : Int) < (G.2.i 43).toInt := by rw [ei, b9, z43]; omega
  obtain ⟨y44, y45, y46, y47, y50, y51, y48, y49⟩ := tu.1.2.2.1 g gG
  rw [ea 44 (by decide), x44] at y44
  rw [ea 48 (by decide), x48] at y48
  rw [ea 49 (by decide), x49] at y49
  rw [ea 50 (by decide), x50] at y50
  rw [ea 51 (by decide), x51] at y51
  have em1 : (-1 : Int32).toInt = -1 := by decide
  have u46 : ∀ y ∈ c :: L, S.o y.2.1 0 = 303 → u.a 46 (ceG y) = G.2.a 46 (ceG y) := fun y hy h => (tu.1.2.2.1 (ceG y) (by
    have := (hin y hy).2.2.2.1 (Or.inl h)
    rw [ei, b9, z43]
    omega)).2.2.1
  -- the sort
  have isg : isGo (R.o a 0) := by
    rw [g0]
    rcases hv with h | h | h | h <;> rw [h]
    · exact Or.inr (Or.inr (Or.inl rfl))
    · exact Or.inr (Or.inr (Or.inr (Or.inl rfl)))
    · exact Or.inr (Or.inr (Or.inr (Or.inr (Or.inl rfl))))
    · exact Or.inr (Or.inr (Or.inr (Or.inr (Or.inr rfl))))
  have nt : ¬ isTy (R.o a 0) := by
    rw [g0]
    rcases hv with h | h | h | h <;> rw [h] <;> unfold isTy <;> decide
  have nw : ¬ isWl (R.o a 0) := by
    rw [g0]
    rcases hv with h | h | h | h <;> rw [h] <;> unfold isWl <;> decide
  have n18 : ¬ R.o a 0 = 218 := by
    rw [g0]
    rcases hv with h | h | h | h <;> rw [h] <;> decide
  have n303 : ¬ R.o a 0 = 303 := by
    rw [g0]
    rcases hv with h | h | h | h <;> rw [h] <;> decide
  have n216 : ¬ R.o a 0 = 216 := by
    rw [g0]
    rcases hv with h | h | h | h <;> rw [h] <;> decide
  have dp0 : nDp (R.o a 0) = 0 := by
    rw [g0]
    rcases hv with h | h | h | h <;> rw [h] <;> rfl
  have lop : R.o a 0 = 205 ∨ R.o a 0 = 206 ∨ R.o a 0 = 207 ∨ R.o a 0 = 304 := by
    rw [g0]
    exact hv
  have iar : IAR R u := by
    obtain ⟨⟨z1, z2⟩, z3⟩ := hC.2.2.2.2.2.2.2.2.2.1
    have e56 : R.i 56 = S.i 56 := r56.trans j56
    unfold IAR
    rw [e56, i43G]
    refine ⟨⟨fun z => ?_, fun z => ?_⟩, fun z => ?_⟩
    · obtain ⟨g', w1, w2⟩ := z1 z
      have y1 := tb'.2.1 g' w1
      have y2 : (s46 s (G.2.a 46)).a 44 g' = s.a 44 g' := by rw [s46.e.2.2.2 44 (by decide)]
      exact ⟨g', by omega, (y1.1.trans y2).trans w2⟩
    · obtain ⟨g', w1, w2⟩ := z
      by_cases cg : (g' : Int) < (s.i 43).toInt
      · have y1 := tb'.2.1 g' cg
        have y2 : (s46 s (G.2.a 46)).a 44 g' = s.a 44 g' := by rw [s46.e.2.2.2 44 (by decide)]
        exact z2 ⟨g', cg, (y1.1.trans y2).symm.trans w2⟩
      · have eg : g' = g := by omega
        rw [eg, y44] at w2
        exact absurd w2 (by decide)
    · obtain ⟨w1, w2, a', w3⟩ := z3 z
      exact ⟨by rw [r53, j53]; omega, w2, a', (ckall.2.1 _ (by omega)).trans w3⟩
  obtain ⟨c1, hc1⟩ : ∃ c1 : CEL, c1 = (c.1 + 1, a, T, g, ceW c + nWl (S.o c.2.1 0)) := ⟨_, rfl⟩
  have v1 : c1.1 = c.1 + 1 := by rw [hc1]
  have v2 : c1.2.1 = a := by rw [hc1]
  have v3 : ceT c1 = T := by rw [hc1]; rfl
  have v4' : ceG c1 = g := by rw [hc1]; rfl
  have v4 : ceG c1 = ceG c + nGo (S.o c.2.1 0) := by rw [v4']; omega
  have v5 : ceW c1 = ceW c + nWl (S.o c.2.1 0) := by rw [hc1]; rfl
  clear hc1
  have em2 : m = c.1 + 1 := by
    have a1 := q1.1
    rw [j53] at m1'
    omega
  have s20 : 0 ≤ (s.i 20).toInt := by
    have := hC.2.2.2.2.2.1.2.2.1.1
    omega
  have hcol : ∃ col : Nat → Option (Nat × Bool), COL R u (c1 :: c :: L) col (b.i 20).toInt := by
    refine ⟨col, ((hc.e46 (s46.e (f := G.2.a 46))).mv b0 hin' ckall fr1.e46l tb' cd').addg (fun _ => ?_) (by rw [v2]; exact n18) (fun kk z => ?_)⟩
    · rw [v4', y48, y49, em1]
      exact ⟨by omega, by omega⟩
    · obtain ⟨p1, p2⟩ := plf c1 kk v2 v3 z
      have fr := hc.fresh s20 (k := kk) p1
      have bs := hC.2.2.2.2.2.1.2.2.1.1
      refine ⟨by omega, p2, fr.1, fun y hy t => ?_⟩
      rw [(hin.o ckall y hy).1] at t
      have w1 := wid1 (S.o y.2.1 0)
      have w2 := (hin y hy).2.2.1
      rw [(fr1 (ceT y) (by omega)).2.2.1]
      exact fr.2 y hy t
  have og1 : G.1.toInt = (g : Int) := by rw [G1, o1, z43]; exact hg
  have lb : LBC R u (c :: L) o.1.toInt := LBC.mv (c :: L) _ glb (fun y hy => (hin.o ckall y hy).1) u46
  have oge : o.1.toInt = (g : Int) := by rw [o1, z43]; exact hg
  refine ⟨c1, hC'.push hin' hT ev fr1.e46l tb' cd' ⟨?_, ?_, ?_, ?_, ?_, ?_⟩ (by show (s.i 43).toInt ≤ (u.i 43).toInt; omega) (by show (s.i 56).toInt ≤ (u.i 56).toInt; rw [i56u]; exact Int.le_refl _) ckall jP hinP eP fP (fun y hy hgo bb => ?_) ⟨by have := jp.1.1; omega, fun y hy ty => ?_, w1.wp.2⟩ ⟨sj1, sj3⟩ r54 r55 r52 (by rw [v2, dp0, x38, j38]; omega) (by rw [r53, j53]; omega) rte ⟨?_, ?_, ?_, ?_⟩ (by omega) (by omega) (by rw [i38u]; omega) (by show (s.i 38).toInt ≤ (u.i 38).toInt; rw [i38u]; exact l38) (by rw [up'.1, ei, b1 59 (by decide), up.1]) (by rw [up'.2.1, ea 60 (by decide), b3 60 (by decide), up.2.1]) (by rw [up'.2.2.1, ea 61 (by decide), b3 61 (by decide), up.2.2.1]) (by rw [up'.2.2.2, ea 62 (by decide), b3 62 (by decide), up.2.2.2]) (CST.pl (by rw [v1, v2, ← em2]; exact rr1) (by rw [v1]; omega) (by rw [v2, v3, v4']; exact rfr (by rw [G1, o1]) g _ og1 y44) (by rw [v2]; exact n18) (by rw [v2]; exact nt)) ⟨v1, by rw [v3, eo]; exact q3, by rw [v4, eo], by rw [v5, eo], by rw [v2, eo, o1i]; omega, by rw [v2, eo, g14]; exact k4, fun w => by rw [v2, eo, g14]; rw [eo] at w; exact (k5 w).2, fun w1 w2 w3 => by rw [v2, eo, g3]; rw [eo] at w1 w2 w3; exact hm w1 w2 w3, by rw [v2, g0]; rcases hv with z9 | z9 | z9 | z9 <;> rw [z9] <;> (unfold isKS isOne isTy; decide)⟩ low ?_ iar hcol (by rw [v2]; exact o1i) (by rw [v2]; exact g14) (by rw [v2]; exact n216) (fun _ bb => ?_) (fun w => absurd w (by rw [v2]; exact nt)) (r56.trans j56) (by rw [v2]; exact g3), ⟨?_, ?_, ?_⟩, v2, v3⟩
  · show u.i 2 = s.i 2
    rw [tu.1.1.1, ei, b1 2 (by decide), tq'.1.1.1, nm1]
  · show u.i 3 = s.i 3
    rw [tu.1.1.2.1, ei, b1 3 (by decide), tq'.1.1.2.1, nm2]
  · show u.i 8 = s.i 8
    rw [tu.1.1.2.2.1, ei, b1 8 (by decide), tq'.1.1.2.2.1, nm3]
  · rw [s46.e.2.2.2 1 (by decide), tu.1.1.2.2.2.2.2.2.2.1, ea 1 (by decide), b3 1 (by decide), tq'.1.1.2.2.2.2.2.2.2.1, nm7]
  · rw [s46.e.2.2.2 4 (by decide), tu.1.1.2.2.2.2.2.2.2.2.1, ea 4 (by decide), b3 4 (by decide), tq'.1.1.2.2.2.2.2.2.2.2.1, nm8]
  · show u.b 9 = s.b 9
    rw [tu.1.1.2.2.2.2.2.2.2.2.2, eb, b5 9 (by decide), tq'.1.1.2.2.2.2.2.2.2.2.2, nm9]
  · have lt := (hinP y hy).2.2.2.1 hgo
    have lt' : (ceG y : Int) < (q'.i 43).toInt := by rw [z43, ← nm4]; exact lt
    have ltG : (ceG y : Int) < (G.2.i 43).toInt := by rw [ei, b9]; omega
    have w := tu.1.2.2.1 (ceG y) ltG
    have w' := tq'.1.2.2.1 (ceG y) lt
    unfold flg
    rw [w.2.2.2.2.1, w.2.2.2.2.2.1, ea 50 (by decide), ea 51 (by decide), b4 50 _ lt', b4 51 _ lt', w'.2.2.2.2.1, w'.2.2.2.2.2.1]
  · rw [eoP y hy] at ty
    have w1 := wid1 (S.o y.2.1 0)
    have w2 := (hin y hy).2.2.1
    rw [(wf (ceT y) (by omega)).2.2.1]
    have := jp.1.2.1 y hy ty
    omega
  · show (s.i 11).toInt ≤ (u.i 11).toInt
    omega
  · show phI s + dbt (R.o c1.2.1 0) ≤ phI u
    rw [v2, g0]
    exact nn.2.1
  · show (s.i 17).toInt ≤ (u.i 17).toInt
    omega
  · show (u.i 19).toInt = (s.i 19).toInt + (nSg (R.o c1.2.1 0) : Int)
    have n9 : nSg v = 0 := by rcases hv with z9 | z9 | z9 | z9 <;> rw [z9] <;> rfl
    rw [v2, g0, n9]
    have := nn.2.2.2
    omega
  · unfold LBC
    rw [v2, if_neg n303, if_pos lop, v4', ← oge]
    exact lb
  · unfold flg
    rw [v4', y50, y51]
    by_cases z : bb = 0
    · exact if_pos z
    · exact if_neg z
  · rw [r53, j53, v1]
    have := q1.1
    omega
  · rw [v2, v4', nGo1 isg, i43G, hg]
    omega
  · rw [v2, v5, nWl.eq nw, i56u, q1.2.2]
    omega
