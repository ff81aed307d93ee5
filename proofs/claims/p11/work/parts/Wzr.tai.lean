/-! both readers: a loop's row, from its head's end -/
theorem e_walk {N : Nat} {g : Int32} : ∀ (n : Nat) (s : RS) (j : Int32) (V : Int32 × RS), f_X12_loopGoal_11 N n s g j = some V → V.1 = g ∧ E46 s V.2
  | 0, _, _, _, e => by cases e
  | n + 1, s, j, V, e => by
    have e' : b_X12_loopGoal_11 N (f_X12_loopGoal_11 N n) s g j = some V := e
    unfold b_X12_loopGoal_11 f_X12_loopGoal_49 at e'
    by_cases c0 : j < 0
    · rw [if_pos c0] at e'
      cases e'
      exact ⟨rfl, E46.rf s⟩
    rw [if_neg c0] at e'
    obtain ⟨-, e'⟩ := hf_ite e'
    by_cases d1 : s.a 44 (j.toNatClampNeg) = 2
    · rw [if_pos d1] at e'
      by_cases d2 : s.a 46 (j.toNatClampNeg) = -3
      · rw [if_pos d2] at e'
        obtain ⟨r1, r2⟩ := e_walk n _ _ V e'
        exact ⟨r1, E46.tr (show E46 s (RS.setA s 46 (j.toNatClampNeg) g) from ⟨rfl, rfl, rfl, fun q hq => setA_nk hq⟩) r2⟩
      · rw [if_neg d2] at e'
        cases e'
        exact ⟨rfl, E46.rf s⟩
    · rw [if_neg d1] at e'
      cases e'
      exact ⟨rfl, E46.rf s⟩
theorem lg_in {N : Nat} {q : RS} {G : Int32 × RS} (h : f_X12_loopGoal N q = some G) : G.1 = q.i 43 ∧ (∀ k : Nat, k ≠ 43 → G.2.i k = q.i k) ∧ (∀ k : Nat, k < 44 ∨ 51 < k → G.2.a k = q.a k) ∧ (∀ (d : Int32) (S : CS), ENV d S q → ENV d S G.2) ∧ (∀ k j : Nat, k ≠ 46 → (j : Int) < (q.i 43).toInt → G.2.a k j = q.a k j) ∧ (G.2.i 43).toInt = (q.i 43).toInt + 1 ∧ ∀ g : Nat, (q.i 43).toInt = (g : Int) → G.2.a 48 g = -1 ∧ G.2.a 49 g = -1 ∧ G.2.a 47 g = q.i 52 := by
  unfold f_X12_loopGoal at h
  obtain ⟨o, ho, h⟩ := hf_bind h
  obtain ⟨o1, oa⟩ := g_goa ho
  obtain ⟨g1, ge⟩ := e_walk N o.2 _ G h
  obtain ⟨b1, b2, b3, b4, -, -, ⟨-, -, b5⟩, b6⟩ := id oa
  exact ⟨g1.trans o1, fun k hk => by rw [ge.1]; exact b1 k hk, fun k hk => (ge.2.2.2 k (by omega)).trans (b3 k (hk.elim Or.inl (fun h => Or.inr (Or.inr h)))), fun d S ev => (oa.env ev).e46 ge, fun k j hk hj => by rw [ge.2.2.2 k hk]; exact b4 k j hj, by rw [ge.1]; exact b5, fun g hg => by
    obtain ⟨-, ⟨-, c1, c2⟩, -⟩ := b6 g hg
    exact ⟨by rw [ge.2.2.2 48 (by decide)]; exact c1, by rw [ge.2.2.2 49 (by decide)]; exact c2, by rw [ge.2.2.2 47 (by decide)]; exact goa47 ho hg⟩⟩
theorem pl_in {N : Nat} {S : CS} {v x2 x3 : Int32} {r : Option Nat × CS} (h : f_X7_pushLoop N S v x2 x3 = some r) : ∃ (p : Option Nat × CS) (a : Nat), f_X6_push N S v (S.i 38) (S.i 50) = some p ∧ p.1 = some a ∧ r = (some a, CS.setO (CS.setO p.2 a 10 x2) a 9 x3) := by
  unfold f_X7_pushLoop at h
  obtain ⟨p, ep, h⟩ := hf_bind h
  rcases hf_oc h with ⟨-, z⟩ | ⟨a, ea, h⟩
  · cases z
  · obtain ⟨-, h⟩ := hf_ite h
    cases h
    exact ⟨p, a, ep, ea, rfl⟩
/-- just true: the class's answer and the reference's -/
theorem jt_eq {N : Nat} {r u : RS} {since v : Int32} {P : Int32 × RS} (h : f_X12_isJustTrue N u since = some P) (hs : (r.i 10 = 432 ∧ since = r.i 17) ∨ (¬ r.i 10 = 432 ∧ since = 0)) (h17 : 0 < (r.i 17).toInt ∧ (r.i 17).toInt < 2000) (hv : v = 0 ∨ v = 1) (hi : v = 1 ↔ (r.i 10 = 432 ∧ (u.i 17).toInt = (r.i 17).toInt + 1)) : P = (v, u) := by
  unfold f_X12_isJustTrue f_X12_isJustTrue_18 at h
  rcases hs with ⟨h1, h2⟩ | ⟨h1, h2⟩
  · rw [h2] at h
    rw [if_neg (show ¬ r.i 17 ≤ 0 by rw [Int32.le_iff_toInt_le, z_t0]; omega)] at h
    have e1 : (r.i 17 + 1).toInt = (r.i 17).toInt + 1 := ad1 (by omega) (by omega)
    by_cases c : u.i 17 = r.i 17 + 1
    · rw [if_pos c] at h
      cases h
      have : v = 1 := hi.mpr ⟨h1, by rw [c, e1]⟩
      rw [this]
    · rw [if_neg c] at h
      cases h
      have : v = 0 := hv.resolve_right (fun z => c (Int32.toInt_inj.mp (by rw [(hi.mp z).2, e1])))
      rw [this]
  · rw [h2] at h
    rw [if_pos (Int32.le_refl _)] at h
    cases h
    have : v = 0 := hv.resolve_right (fun z => h1 (hi.mp z).1)
    rw [this]
set_option maxHeartbeats 4000000 in
theorem lp_tail {N : Nat} {d : Int32} {B : CS} {b : RS} {t0 T n : Nat} {L : List CEL} {x p f k y z : Int} {S P R : CS} {s q q' V U : RS} {c : CEL} {G : Int32 × RS} {a m jf : Nat} {v x3 st : Int32} (hC : COR d B b t0 (c :: L) x S s) (q1 : TOP S s c) (q2 : LOW S s c) (q3 : T = ceT c + wid (S.o c.2.1 0)) (hT : t0 ≤ T) (hm : NMC c S) (hx : S.o c.2.1 0 = 303 → x = -3) (hB : BOT b S (c :: L)) (w : WAZ d T p f k y z S s P q) (hp : 0 ≤ p) (hv : v = 205 ∨ v = 206 ∨ v = 207 ∨ v = 304) (sq : PSQ P R a m v x3) (g3 : R.o a 3 = S.i 50) (x38 : R.i 38 = P.i 38) (o5 : R.o a 5 = 0) (nmc : v = 205 ∨ v = 206 → R.i 50 = R.o a 3) (fq' : FRB T q q') (tq' : TBK9 q q') (tp' : tpI q' = (T : Int)) (evR : ENV d R q') (hG : f_X12_loopGoal N q' = some G) (hj : jf = 68 ∨ jf = 73) (hV : f_X12_body N (RS.setA G.2 jf T G.1) st = some V) (g : f_X12_parse_10 N n V = some U) (nn : (q.i 11).toInt ≤ (q'.i 11).toInt ∧ phI s + dbt v ≤ phI q' ∧ (q.i 17).toInt ≤ (q'.i 17).toInt ∧ (q'.i 19).toInt = (s.i 19).toInt) (n21 : (R.i 21).toInt + 2 * (s.i 11).toInt ≤ (S.i 21).toInt + 2 * (q'.i 11).toInt) (n54 : (R.i 54).toInt + (s.i 11).toInt ≤ (S.i 54).toInt + (q'.i 11).toInt) (up : q'.i 59 = q.i 59 ∧ q'.a 60 = q.a 60 ∧ q'.a 61 = q.a 61 ∧ q'.a 62 = q.a 62) (rfr : ∀ (u : RS) (g w : Nat), (∀ j : Nat, 64 ≤ j → j ≤ 73 → j ≠ 65 → j ≠ jf → u.a j T = q'.a j T) → u.a 65 T = st → (u.a jf T).toInt = (g : Int) → u.a 44 g = 0 → RFR R u a T g w) (plf : ∀ (u : RS) (c1 : CEL) (k : Int), c1.2.1 = a → ceT c1 = T → (∀ j : Nat, 64 ≤ j → j ≤ 73 → j ≠ 65 → j ≠ jf → u.a j T = q'.a j T) → PLF R u c1 k → (s.i 20).toInt ≤ k ∧ k < (q'.i 20).toInt) {J : List RVW → CS → RS → Prop} (hJ : ∀ (u : RS) (c1 : CEL), c1.2.1 = a → ceT c1 = T → qe u = qe q' → (u.i 38 = q'.i 38 ∧ u.a 40 = q'.a 40 ∧ u.i 11 = q'.i 11 ∧ u.i 19 = q'.i 19) → (∀ j : Nat, 64 ≤ j → j ≤ 73 → j ≠ 65 → j ≠ jf → u.a j T = q'.a j T) → ((∀ k t : Nat, 66 ≤ k → k ≤ 73 → t < T → u.a k t = q'.a k t) ∧ ∀ j : Nat, (j : Int) < (s.i 38).toInt → u.a 40 j = s.a 40 j) → R.i 36 = 1 → LPF s u (ceG c1) → (∀ y ∈ vws R u (c :: L), y.2.2.1 < c1.1) → J (vws R u (c1 :: c :: L)) R u) : DMD d B R U ∨ ∃ (m : Nat) (u : RS), f_X12_parse_10 N m u = some U ∧ NEW d B b t0 c L R u J := by
  obtain ⟨zX, ⟨r53, r54, r55, r52⟩, ⟨r50, r56, r36⟩, ⟨m1', m2', rr1⟩, ⟨g0, g1', -, g14⟩, -⟩ := id sq
  have R36 : R.i 36 = 1 := r36.trans w.2.2.2.2.2.1.2.2.2
  obtain ⟨G1, Gi, Ga, Ge, Gk, G43, Gn⟩ := lg_in hG
  have evG := Ge d R evR
  have jb : 66 ≤ jf ∧ jf ≤ 73 := by omega
  have evv : ENV d R (RS.setA G.2 jf T G.1) := setA_env (Or.inr ⟨by omega, jb.2⟩) evG
  have one : isOne (R.o a 0) := by
    rw [g0]
    rcases hv with h | h | h | h <;> rw [h]
    · exact Or.inr (Or.inr (Or.inr (Or.inl rfl)))
    · exact Or.inr (Or.inr (Or.inr (Or.inr (Or.inl rfl))))
    · exact Or.inr (Or.inr (Or.inr (Or.inr (Or.inr (Or.inl rfl)))))
    · exact Or.inr (Or.inr (Or.inr (Or.inr (Or.inr (Or.inr rfl)))))
  rcases r_body evv.1.2.1 hV g with ⟨z1, z2⟩ | ⟨hth, n410, n411, -⟩
  · exact Or.inl ⟨z1, ⟨_, evv, z2⟩, R36, a, m, by omega, ⟨m2', by have z9 := hC.2.2.2.2.1.2.2.1; have z8 := w.2.2.2.2.2.1.2.1; rw [z8] at m1'; omega⟩, rr1, one, o5⟩
  have tpv : tpI (RS.setA G.2 jf T G.1) = (T : Int) := by
    show (G.2.i 63).toInt = (T : Int)
    rw [Gi 63 (by decide)]
    exact tp'
  obtain ⟨hV', t99⟩ := r_then tpv hth
  rw [hV'] at g
  obtain ⟨u, hu⟩ : ∃ y, y = TH (RS.setA G.2 jf T G.1) T st 2 := ⟨_, rfl⟩
  have evu : ENV d R u := by rw [hu]; exact evv.th
  have fu : FRB T G.2 u := by rw [hu]; exact (setA_frb (Or.inr ⟨by omega, jb.2, Nat.le_refl _⟩)).tr TH.frb
  have ku : TBK G.2 u := by rw [hu]; exact (setA_tbk ⟨by omega, jb.2⟩).tr TH.tbk
  have iu : ∀ k : Nat, k ≠ 63 → u.i k = G.2.i k := by
    rw [hu]
    exact fun k h => if_neg h
  have uq : ∀ j : Nat, 64 ≤ j → j ≤ 73 → j ≠ 65 → u.a j T = (RS.setA G.2 jf T G.1).a j T := fun j h1 h2 h3 => by
    have hj' : j = 64 ∨ j = 66 ∨ j = 67 ∨ j = 68 ∨ j = 69 ∨ j = 70 ∨ j = 71 ∨ j = 72 ∨ j = 73 := by omega
    rw [hu]
    rcases hj' with h | h | h | h | h | h | h | h | h <;> rw [h]
    · exact TH.fk0 (Nat.le_refl T)
    · rfl
    · rfl
    · rfl
    · rfl
    · rfl
    · rfl
    · rfl
    · rfl
  have uj : ∀ j : Nat, 64 ≤ j → j ≤ 73 → j ≠ 65 → j ≠ jf → u.a j T = q'.a j T := fun j h1 h2 h3 h4 => by
    rw [uq j h1 h2 h3, setA_nk h4, Ga j (by omega)]
  have ujf : u.a jf T = G.1 := by
    rw [uq jf (by omega) jb.2 (by omega)]
    exact setA_at
  have u65 : u.a 65 T = st := by rw [hu]; exact TH.st
  have u641 : u.a 64 (T + 1) = 2 := by rw [hu]; exact TH.fk
  have u651 : u.a 65 (T + 1) = 0 := by rw [hu]; exact TH.fs
  have tu : tpI u = ((T + 1 : Nat) : Int) := by rw [hu]; exact TH.tp tpv (by omega)
  have qu : qe u = qe G.2 := by
    rw [hu]
    rcases hj with h | h <;> rw [h] <;> rfl
  have u40 : u.a 40 = G.2.a 40 := by
    rw [hu]
    rcases hj with h | h <;> rw [h] <;> rfl
  have pa : u.i 59 = G.2.i 59 ∧ u.a 60 = G.2.a 60 ∧ u.a 61 = G.2.a 61 ∧ u.a 62 = G.2.a 62 := by
    rw [hu]
    rcases hj with h | h <;> rw [h] <;> exact ⟨rfl, rfl, rfl, rfl⟩
  rw [← hu] at g
  clear hu hV'
  have u11 : u.i 11 = q'.i 11 := (iu 11 (by decide)).trans (Gi 11 (by decide))
  have u17 : u.i 17 = q'.i 17 := (iu 17 (by decide)).trans (Gi 17 (by decide))
  have u20 : u.i 20 = q'.i 20 := (iu 20 (by decide)).trans (Gi 20 (by decide))
  have uph : phI u = phI q' := by
    unfold phI
    rw [u17, u20]
  obtain ⟨c1, hc, ht, v2, v3⟩ := hC.gol q1 q2 q3 hT hm hx hB w hp hv sq g3 x38 fq' tq' hG evu fu ku ⟨by rw [u11]; exact nn.1, by rw [uph]; exact nn.2.1, by rw [u17]; exact nn.2.2.1, by rw [iu 19 (by decide), Gi 19 (by decide)]; exact nn.2.2.2⟩ (by rw [u11]; exact n21) (by rw [u11]; exact n54) up pa (fun _ g w hg h44 => rfr u g w uj u65 (by rw [ujf]; exact hg) h44) (fun c1 k h1 h2 h3 => by rw [u20]; exact plf u c1 k h1 h2 uj h3)
  have cd9 : cod c1 R u = -9 := by
    unfold cod
    rw [if_neg]
    intro z
    have z1 := z.1
    rw [v2, g0] at z1
    rcases hv with h | h | h | h <;> rw [h] at z1 <;> exact absurd z1 (by decide)
  have lpf : LPF s u (ceG c1) := by
    have e1 : q'.i 43 = q.i 43 := tq'.1.1.2.2.2.2.1
    have e2 : q.i 43 = s.i 43 := w.2.2.2.1.2.2.2.2.2.1
    have k1 : GKP s q := GKP.tbr w.2.2.2.1.1 (by rw [e2]; exact Int.le_refl _)
    have k2 : GKP q q' := GKP.tbr tq'.1.2 (by rw [e1]; exact Int.le_refl _)
    have k3 : GKP q' G.2 := ⟨by omega, fun j hj => ⟨Gk 50 j (by decide) hj, Gk 51 j (by decide) hj, Gk 48 j (by decide) hj, Gk 49 j (by decide) hj, Gk 47 j (by decide) hj⟩, by rw [Gi 59 (by decide)]; exact Int.le_refl _, fun j _ => ⟨by rw [Ga 60 (by omega)], by rw [Ga 61 (by omega)], by rw [Ga 62 (by omega)]⟩⟩
    have k4 : GKP G.2 u := GKP.tbk ku
    have u43 : u.i 43 = G.2.i 43 := iu 43 (by decide)
    have o1 : nGo (R.o c1.2.1 0) = 1 := by
      rw [v2, g0]
      rcases hv with h | h | h | h <;> rw [h] <;> decide
    have t43 := ht.2.1
    rw [o1, u43, G43, e1, e2] at t43
    obtain ⟨n1, n2, n3⟩ := Gn (ceG c1) (by rw [e1, e2]; omega)
    have lt : ((ceG c1 : Nat) : Int) < (G.2.i 43).toInt := by rw [G43, e1, e2]; omega
    obtain ⟨-, -, m1, m2, m3⟩ := k4.2.1 (ceG c1) lt
    exact ⟨((k1.tr k2).tr k3).tr k4, by omega, by rw [u43]; exact lt, by rw [m1, n1]; decide, by rw [m2, n2]; decide, by rw [m3, n3, iu 52 (by decide), Gi 52 (by decide)]⟩
  refine Or.inr ⟨n, u, g, c1, by rw [cd9]; exact hc, ht, ⟨Or.inr (Or.inl ⟨by rw [v2]; exact one, by rw [v2]; exact o5, by rw [v3]; exact tu, by rw [v3]; exact u641, by rw [v3]; exact u651, R36, (by rw [iu 10 (by decide)]; exact ⟨n410, n411⟩), fun z1 z2 z3 => ?_⟩), Or.inr R36⟩, hJ u c1 v2 v3 (qu.trans (kre_f_X12_loopGoal N q' G hG)) ⟨(iu 38 (by decide)).trans (Gi 38 (by decide)), u40.trans (Ga 40 (by omega)), u11, (iu 19 (by decide)).trans (Gi 19 (by decide))⟩ uj ⟨fun k t h1 h2 h3 => (fu.fld k t h1 h2 h3).trans (by rw [Ga k (by omega)]), fun j hj => by
    rw [u40, Ga 40 (by omega), (tq'.1.2.1 j (by
      have z1 := hc.o3 c1 List.mem_cons_self
      rw [v2, g3, hC.1.2.1.1, iu 38 (by decide), Gi 38 (by decide), tq'.1.1.2.2.2.1] at z1
      omega)).2.1]
    exact (w.2.2.2.1.1.1 j hj).2.1⟩ R36 lpf (vws.pl hc)⟩
  rw [v2] at z2 z3 ⊢
  rw [g0] at z2 z3
  refine nmc ?_
  rcases hv with h | h | h | h
  · exact Or.inl h
  · exact Or.inr h
  · exact absurd h z2
  · exact absurd h z3
