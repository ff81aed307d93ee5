/-! the class's reading: do; rows are looked up -/
theorem q_beginDo {N : Nat} {H : HB} (hN : 1000 ≤ N) {x y : Int} {c : List Nat} {X : List (Nat × List Nat)} {P : List Nat} {lim : List Int} {s : CS} (hx : x ≤ 4000) (hy : y ≤ 90) (h : JJ H x y c X P lim s) (h0 : S0G s) (ht : s.i 43 = 206) : ok (f_X7_beginDo N s) (fun R => STQ H (x - 20) y X P lim s R.2) := by
  unfold f_X7_beginDo
  have nf := h0.1
  have tw : 200 ≤ (s.i 43).toInt := by rw [ht]; decide
  refine ok_bind (q_newTarget N s) (fun p hp => ?_)
  obtain ⟨t1, t2⟩ := hp
  have j1 := h.k.new t1 (by omega) (by omega) c
  have et := NTG.t h.k nf t2
  have f1 := t1.f
  obtain ⟨t, ht'⟩ : ∃ t, t = (tcI s).toNat := ⟨_, rfl⟩
  rw [← ht'] at j1 et
  refine ok_bind (q_newTarget N p.2) (fun p' hp' => ?_)
  obtain ⟨u1, u2⟩ := hp'
  have nf1 := f1.1.trans nf
  have j1' := j1.new u1 (by omega) (by omega) c
  have eu := NTG.t j1 nf1 u2
  have f2 := u1.f
  obtain ⟨u, hu'⟩ : ∃ u, u = (tcI p.2).toNat := ⟨_, rfl⟩
  rw [← hu'] at j1' eu
  have nf2 := f2.1.trans nf1
  refine ok_bind (q_pushLoop (N := N) j1' (fun _ => (t1.sx nf).tr (u1.sx nf1)) 206 p.1 p'.1) (fun w hw => ?_)
  obtain ⟨v, a, m, r1, px, ⟨o0, o2, o3⟩, ⟨o9, o10⟩, ri, ra⟩ := hw
  rw [r1]
  have nfw : w.2.i 32 = 0 := (ri 32 (by decide) (by decide)).trans nf2
  show ok ((f_X0_newTarget N w.2).bind fun p19 => if oK p19.2 a 0 then (f_X9_advance N (CS.setO p19.2 a 11 p19.1)).bind fun p24 => if oK p24.2 a 0 then (f_X0_aim N p24.2 (CS.o p24.2 a 11)).bind fun p29 => (f_X0_add N p29.2 51 0).bind fun p33 => some ((), p33.2) else none else none) _
  refine ok_bind (q_newTarget N w.2) (fun n hn => ?_)
  obtain ⟨n1, n2⟩ := hn
  have en := px.tc nfw n2
  obtain ⟨pn, pno, pnl⟩ := px.new n1 (by omega) (by omega) c
  obtain ⟨b, hb'⟩ : ∃ b, b = (tcI w.2).toNat := ⟨_, rfl⟩
  rw [← hb'] at pn en
  refine ok_chk pn.1.2.1.1 ?_
  have ou := (OUV.rf n.2 a).o 11 n.1
  have cT := pn.1.1.o a 11 n.1 (by omega) (by omega)
  have pT := pn.cel ou cT
  have To : (CS.setO n.2 a 11 n.1).o a = upd (w.2.o a) 11 n.1 := by
    have := ou.2.2.1
    rw [pno] at this
    exact this
  have Ti : (CS.setO n.2 a 11 n.1).i = n.2.i := ou.1.2.2.2.2.2.2.2.2.2
  generalize CS.setO n.2 a 11 n.1 = T at *
  have eT : ∀ j : Nat, j ≠ 53 → j ≠ 54 → j ≠ 21 → T.i j = s.i j := fun j j1 j2 j3 => by
    rw [Ti, n1.2.1 j j3, ri j j1 j2, u1.2.1 j j3, t1.2.1 j j3]
  refine ok_bind (q_advC hN pT.1.1) (fun q hq => ?_)
  have wd := hq.wd pT.1.1.2.2.1 (Or.inl (by rw [eT 43 (by decide) (by decide) (by decide)]; exact tw))
  obtain ⟨pq, pqo, pql⟩ := pT.adv (x' := x - 200) (y' := y) hq (fun _ => by omega) (fun _ => wd)
  refine ok_chk pq.1.2.1.1 ?_
  have q11 : q.2.o a 11 = n.1 := by rw [pqo, To]; rfl
  rw [q11]
  have mb : (b, c) ∈ (b, c) :: (u, c) :: (t, c) :: X := List.mem_cons_self ..
  have mu : (u, c) ∈ (b, c) :: (u, c) :: (t, c) :: X := List.mem_cons_of_mem _ (List.mem_cons_self ..)
  have mt : (t, c) ∈ (b, c) :: (u, c) :: (t, c) :: X := List.mem_cons_of_mem _ (List.mem_cons_of_mem _ (List.mem_cons_self ..))
  refine ok_bind (q_aim N q.2 n.1) (fun z hz => ?_)
  obtain ⟨pz, pzo, pzl⟩ := pq.aim (P' := u :: t :: P) hz (by omega) (by omega) (fun _ => ⟨b, en, mb⟩) (fun _ k hk => by
    rcases List.mem_cons.mp hk with e | e
    · right; rw [e]; exact en.symm
    · exact Or.inl e)
  refine ok_bind (q_add N z.2 51 0) (fun f hf => ok_some ?_)
  obtain ⟨py, pyo, pyl⟩ := pz.add (c1 := c) hf (by omega) (by omega) (fun q => (pz.ds q).2) (fun _ _ _ _ => IOK.fall (by decide))
  show STQ H (x - 20) y X P lim s f.2
  have Fo : f.2.o a = upd (w.2.o a) 11 n.1 := by rw [pyo, pzo, pqo, To]
  have Fi : ∀ j : Nat, j ≠ 20 → ¬ (42 ≤ j ∧ j ≤ 45) → f.2.i j = T.i j := fun j j1 j2 => by
    rw [hf.2.1 j j1, hz.2.1, hq.1.2 j (by omega) (by omega) (by omega) (by omega)]
  have F0 : f.2.o a 0 = 206 := by rw [Fo]; exact o0
  have F9 : f.2.o a 9 = p'.1 := by rw [Fo]; exact o9
  have F10 : f.2.o a 10 = p.1 := by rw [Fo]; exact o10
  have F11 : f.2.o a 11 = n.1 := by rw [Fo]; rfl
  have w2i : ∀ j : Nat, j ≠ 20 → j ≠ 21 → ¬ (42 ≤ j ∧ j ≤ 45) → f.2.i j = w.2.i j := fun j j1 j2 j3 => by
    rw [Fi j j1 j3, Ti, n1.2.1 j j2]
  have F2 : f.2.o a 2 = f.2.i 38 := by rw [Fo, w2i 38 (by decide) (by decide) (by decide)]; exact o2
  have F3 : f.2.o a 3 = f.2.i 50 := by rw [Fo, w2i 50 (by decide) (by decide) (by decide)]; exact o3
  refine (PRX.end (κ := 3) (X' := X) py h0 (by rw [F0]; decide) (fun _ z => List.mem_cons_of_mem _ (List.mem_cons_of_mem _ (List.mem_cons_of_mem _ z))) (fun nf DT KT qX qN => ⟨?_, qN, ?_⟩) (fun nf k hk => ?_) (fun nf => py.lm nf) (fun nf => ?_) ?_ (by omega) (by omega) (by omega) (fun nf V v1 v2 v3 => ?_)).w (by omega) (by omega)
  · rw [F2]; exact (py.ds nf).1
  · refine Or.inr (Or.inr (Or.inr (Or.inr (Or.inr (Or.inl ⟨F0, rfl, ?_, ?_, ?_, rfl⟩)))))
    · rw [F9]; exact TTc.x qX eu mu
    · rw [F10]; exact TTc.x qX et mt
    · rw [F11]; exact TTc.x qX en mb
  · rcases List.mem_cons.mp hk with e | e
    · right; left
      rw [F0, F9, e]
      exact ⟨by decide, by decide, by decide, by decide, eu⟩
    · rcases List.mem_cons.mp e with e | e
      · right; right
        rw [F0, F10, e]
        exact ⟨by decide, et⟩
      · exact Or.inl e
  · rw [F3]
    exact ⟨py.nm nf, Int.le_refl _⟩
  · unfold sgn; rw [F0]; rfl
  · exact v1.pl v2 v3 py.1.2.1.2.1 F0 (by decide)
/-- a row by its number -/
theorem q_row {N : Nat} {H : HB} {s : CS} (h : CBS H s) (x1 : Int32) : ok (f_X6_row N s x1) (fun R => R.2 = s ∧ ((R.1 = none ∧ ¬ (0 ≤ x1.toInt ∧ x1.toInt < cnI s)) ∨ ∃ a : Nat, R.1 = some a ∧ (0 ≤ x1.toInt ∧ x1.toInt < cnI s) ∧ s.r 51 x1.toInt.toNat = some a ∧ oK s a 0)) := by
  unfold f_X6_row f_X6_row_30
  have cn := h.2.2.2.2.2.2.1
  have e400 : (400 : Int32).toInt = 400 := by decide
  refine ok_ite (fun c1 => ok_some ⟨rfl, Or.inl ⟨rfl, fun q => ?_⟩⟩) (fun c1 => ok_ite (fun c2 => ok_some ⟨rfl, Or.inl ⟨rfl, fun q => ?_⟩⟩) (fun c2 => ok_ite (fun c3 => ok_some ⟨rfl, Or.inl ⟨rfl, fun q => ?_⟩⟩) (fun c3 => ?_)))
  · have := lt_int c1; rw [z_t0] at this; omega
  · have l : cnI s ≤ x1.toInt := le_int c2; omega
  · have := le_int c3; rw [e400] at this; have := cn.2.1; omega
  · have l1 := le_int (Int32.not_lt.mp c1)
    rw [z_t0] at l1
    have l2 : x1.toInt < cnI s := lt_int (Int32.not_le.mp c2)
    have l3 := lt_int (Int32.not_le.mp c3)
    rw [e400] at l3
    refine ok_chk ⟨l1, by omega⟩ ?_
    have cl := clampI l1
    have ec : x1.toNatClampNeg = x1.toInt.toNat := by omega
    rw [ec]
    obtain ⟨a, ea⟩ := cn.2.2 x1.toInt.toNat (by omega)
    rw [ea]
    exact ok_some ⟨rfl, Or.inr ⟨a, rfl, ⟨l1, l2⟩, rfl, h.1.2.1 _ a (by omega) ea⟩⟩
def isLp (v : Int32) : Prop := v = 205 ∨ v = 206 ∨ v = 207 ∨ v = 304
theorem q_isLoop {N : Nat} {s : CS} {a : Nat} (h : oK s a 0) : ok (f_X5_isLoop N s a) (fun R => R.2 = s ∧ ((R.1 = 0 ∧ ¬ isLp (s.o a 0)) ∨ (R.1 = 1 ∧ isLp (s.o a 0)))) := by
  unfold f_X5_isLoop f_X5_isLoop_40
  refine ok_chk h (ok_ite (fun c1 => ok_some ⟨rfl, Or.inr ⟨rfl, Or.inl c1⟩⟩) (fun c1 => ok_ite (fun c2 => ok_some ⟨rfl, Or.inr ⟨rfl, Or.inr (Or.inl c2)⟩⟩) (fun c2 => ok_ite (fun c3 => ok_some ⟨rfl, Or.inr ⟨rfl, Or.inr (Or.inr (Or.inl c3))⟩⟩) (fun c3 => ok_ite (fun c4 => ok_some ⟨rfl, Or.inr ⟨rfl, Or.inr (Or.inr (Or.inr c4))⟩⟩) (fun c4 => ok_some ⟨rfl, Or.inl ⟨rfl, fun q => ?_⟩⟩)))))
  rcases q with q | q | q | q
  · exact c1 q
  · exact c2 q
  · exact c3 q
  · exact c4 q
theorem lg_ne {x y : Int64} (h : ¬ lg_cmp x y = 0) : ¬ x = y := fun e => h (by
  unfold lg_cmp
  rw [if_neg (by rw [e]; exact Int64.lt_irrefl), if_pos e])
/-- a label is looked for -/
theorem q_lab7 {N : Nat} {H : HB} {s : CS} (h : CBS H s) (x1 : Int64) : ∀ (n : Nat) (x3 : Int32), x3.toInt < cnI s → x3.toInt - (s.i 56).toInt < n → (∀ i a : Nat, x3.toInt < (i : Int) → (i : Int) < cnI s → s.r 51 i = some a → s.o a 0 = 303 → ¬ s.ol a = x1) → ok (f_X6_labelled_7 N (n + 1) s x1 x3) (fun R => R.2 = s ∧ ((R.1 < 0 ∧ ∀ i a : Nat, (s.i 56).toInt < (i : Int) → (i : Int) < cnI s → s.r 51 i = some a → s.o a 0 = 303 → ¬ s.ol a = x1) ∨ (∃ a : Nat, 0 ≤ R.1.toInt ∧ (s.i 56).toInt < R.1.toInt ∧ R.1.toInt < cnI s ∧ s.r 51 R.1.toInt.toNat = some a ∧ s.o a 0 = 303)))
  | n, x3, hc, hn, hi => by
    show ok (b_X6_labelled_7 N (f_X6_labelled_7 N n) s x1 x3) _
    unfold b_X6_labelled_7
    refine ok_ite (fun c => ok_some ⟨rfl, Or.inl ⟨by show (-1 : Int32) < 0; decide, fun i a q1 q2 q3 q4 => ?_⟩⟩) (fun c => ?_)
    · have := le_int c
      exact hi i a (by omega) q2 q3 q4
    have l := lt_int (Int32.not_le.mp c)
    have cn := h.2.2.2.2.2.2.1
    have em : (-1 : Int32).toInt = -1 := by decide
    have bl := Int32.le_toInt (s.i 56)
    have es : (x3 + -1).toInt = x3.toInt - 1 := by rw [toInt_add] <;> rw [em] <;> omega
    obtain ⟨n', rfl⟩ : ∃ n', n = n' + 1 := ⟨n - 1, by omega⟩
    refine ok_bind (q_row (N := N) h x3) (fun p hp => ?_)
    obtain ⟨p1, p2⟩ := hp
    rw [p1]
    rcases p2 with ⟨p2, p3⟩ | ⟨a, p2, p3, p4, p5⟩
    · rw [p2]
      show ok (f_X6_labelled_7 N (n' + 1) s x1 (x3 + -1)) _
      refine q_lab7 h x1 n' (x3 + -1) (by omega) (by omega) (fun i a q1 q2 q3 q4 => ?_)
      by_cases z : (i : Int) = x3.toInt
      · exact absurd ⟨by omega, by omega⟩ p3
      · exact hi i a (by omega) q2 q3 q4
    · rw [p2]
      have go : (s.o a 0 = 303 → ¬ s.ol a = x1) → ok (f_X6_labelled_7 N (n' + 1) s x1 (x3 + -1)) (fun R => R.2 = s ∧ ((R.1 < 0 ∧ ∀ i a : Nat, (s.i 56).toInt < (i : Int) → (i : Int) < cnI s → s.r 51 i = some a → s.o a 0 = 303 → ¬ s.ol a = x1) ∨ (∃ a : Nat, 0 ≤ R.1.toInt ∧ (s.i 56).toInt < R.1.toInt ∧ R.1.toInt < cnI s ∧ s.r 51 R.1.toInt.toNat = some a ∧ s.o a 0 = 303))) := fun hne => by
        refine q_lab7 h x1 n' (x3 + -1) (by omega) (by omega) (fun i b q1 q2 q3 q4 => ?_)
        by_cases z : (i : Int) = x3.toInt
        · have e : x3.toInt.toNat = i := by omega
          rw [e, q3] at p4
          cases p4
          exact hne q4
        · exact hi i b (by omega) q2 q3 q4
      show ok (if oK s a 0 then (if (CS.o s a 0) = 303 then (if (lg_cmp (CS.ol s a) x1) = 0 then some (x3, s) else f_X6_labelled_7 N (n' + 1) s x1 (x3 + -1)) else f_X6_labelled_7 N (n' + 1) s x1 (x3 + -1)) else none) _
      refine ok_chk p5 (ok_ite (fun c1 => ok_ite (fun c2 => ok_some ⟨rfl, Or.inr ⟨a, p3.1, l, p3.2, p4, c1⟩⟩) (fun c2 => go (fun _ => lg_ne c2))) (fun c1 => go (fun z => absurd z c1)))
  termination_by n => n
theorem q_labelled {N : Nat} {H : HB} (hN : 10000000000 ≤ N) {s : CS} (h : CBS H s) (x1 : Int64) : ok (f_X6_labelled N s x1) (fun R => R.2 = s ∧ ((R.1 < 0 ∧ ∀ i a : Nat, (s.i 56).toInt < (i : Int) → (i : Int) < cnI s → s.r 51 i = some a → s.o a 0 = 303 → ¬ s.ol a = x1) ∨ (∃ a : Nat, 0 ≤ R.1.toInt ∧ (s.i 56).toInt < R.1.toInt ∧ R.1.toInt < cnI s ∧ s.r 51 R.1.toInt.toNat = some a ∧ s.o a 0 = 303))) := by
  unfold f_X6_labelled
  obtain ⟨N', rfl⟩ : ∃ N', N = N' + 1 := ⟨N - 1, by omega⟩
  have cn := h.2.2.2.2.2.2.1
  have c0 : 0 ≤ (s.i 53).toInt := cn.1
  have c4 : (s.i 53).toInt ≤ 400 := cn.2.1
  have e1 : (1 : Int32).toInt = 1 := by decide
  have bl := Int32.le_toInt (s.i 56)
  have es : (s.i 53 - 1).toInt = (s.i 53).toInt - 1 := by rw [toInt_sub] <;> rw [e1] <;> omega
  refine q_lab7 h x1 N' (s.i 53 - 1) ?_ (by omega) (fun i a q1 q2 => ?_)
  · show _ < (s.i 53).toInt
    omega
  · have q2 : (i : Int) < (s.i 53).toInt := q2
    omega
