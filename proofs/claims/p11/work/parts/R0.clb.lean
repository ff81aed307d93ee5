/-! the class's reading: a label -/
theorem KLS.tr {s : CS} {v : Nat} : ∀ {n : Nat}, KLS s n v = true → ∃ i : Nat, i < n ∧ s.o (rowA s i) 0 = 303 ∧ (s.ol (rowA s i)).toInt = (v : Int) + 97 ∧ ∀ j : Nat, i < j → j < n → ¬ s.o (rowA s j) 0 = 302
  | 0, h => by cases h
  | n + 1, h => by
    unfold KLS at h
    by_cases c2 : s.o (rowA s n) 0 = 302
    · rw [if_pos c2] at h; cases h
    · rw [if_neg c2] at h
      have low : KLS s n v = true → ∃ i : Nat, i < n + 1 ∧ s.o (rowA s i) 0 = 303 ∧ (s.ol (rowA s i)).toInt = (v : Int) + 97 ∧ ∀ j : Nat, i < j → j < n + 1 → ¬ s.o (rowA s j) 0 = 302 := fun q => by
        obtain ⟨i, i1, i2, i3, i4⟩ := KLS.tr q
        refine ⟨i, by omega, i2, i3, fun j j1 j2 => ?_⟩
        by_cases e : j = n
        · rw [e]; exact c2
        · exact i4 j j1 (by omega)
      by_cases c3 : s.o (rowA s n) 0 = 303 ∧ 97 ≤ (s.ol (rowA s n)).toInt ∧ (s.ol (rowA s n)).toInt ≤ 122
      · rw [if_pos c3] at h
        rcases Bool.or_eq_true_iff.mp h with q | q
        · have q' := of_decide_eq_true q
          exact ⟨n, by omega, c3.1, by omega, fun j j1 j2 => by omega⟩
        · exact low q
      · rw [if_neg c3] at h
        exact low h
theorem KLS.new {s : CS} {x1 : Int64} (h9 : -1 ≤ (s.i 56).toInt ∧ (s.i 56).toInt < cnI s ∧ ∀ a : Nat, 0 ≤ (s.i 56).toInt → s.r 51 (s.i 56).toInt.toNat = some a → s.o a 0 = 302) (nr : NR s (cnI s).toNat) (hx : 97 ≤ x1.toInt ∧ x1.toInt ≤ 122) (hf : ∀ i a : Nat, (s.i 56).toInt < (i : Int) → (i : Int) < cnI s → s.r 51 i = some a → s.o a 0 = 303 → ¬ s.ol a = x1) : KLS s (cnI s).toNat (x1.toInt - 97).toNat = false := by
  refine Bool.eq_false_iff.mpr (fun q => ?_)
  obtain ⟨i, i1, i2, i3, i4⟩ := KLS.tr q
  obtain ⟨a, ea⟩ := nr i i1
  have er := rowA.of ea
  rw [er] at i2 i3
  by_cases z : (s.i 56).toInt < (i : Int)
  · exact hf i a z (by omega) ea i2 (Int64.toInt_inj.mp (by omega))
  · obtain ⟨b, eb⟩ := nr (s.i 56).toInt.toNat (by omega)
    have o2 := h9.2.2 b (by omega) eb
    by_cases y : (s.i 56).toInt = (i : Int)
    · have e : (s.i 56).toInt.toNat = i := by omega
      rw [e, ea] at eb
      cases eb
      rw [i2] at o2
      exact absurd o2 (by decide)
    · refine i4 (s.i 56).toInt.toNat (by omega) (by omega) ?_
      rw [rowA.of eb]
      exact o2
theorem q_named73 {N : Nat} {H : HB} (hN : 1000 ≤ N) {E1 : CS → Option (Unit × CS)} {E2 : CS → Option (Int32 × CS)} {x y : Int} {c : List Nat} {X : List (Nat × List Nat)} {P : List Nat} {lim : List Int} {s0 s : CS} {κ : Int} {x1 : Int64} (hx : x ≤ 4000) (hy : y ≤ 90) (h : JJ H x y c X P lim s) (h0 : S0G s0) (hκ : 0 ≤ κ) (hs : s.i 32 = 0 → SX 1 κ 0 s0 s ∧ s.i 43 = 58) (hq : s.i 32 = 0 → ∀ (V T : CS) (m a : Nat), T.r 51 m = some a → T.o a 0 = 303 → T.ol a = x1 → (m : Int) = cnI s0 → KLS V m = KLS s0 m → IQ V m → RSQ V T m → NR V m → IQ T (m + 1) ∧ WCS T (m + 1) ≤ WCS V m + κ) : ok (f_X7_named_73 N E1 E2 s x1) (fun R => STQ H (x - 40) (y + 1) X P lim s0 R.2) := by
  unfold f_X7_named_73
  refine ok_bind (q_advC hN h.1) (fun q hq' => ?_)
  have tk : s.i 32 = 0 → plI s + 1 ≤ plI q.2 ∧ eI s ≤ eI q.2 := fun z => hq'.tk1 h.1.2.2.1 (by rw [(hs z).2]; decide)
  have j1 : JJ H (x - 100) y c X P lim q.2 := h.adv hq' (fun z => by have := tk z; omega)
  have x1' : q.2.i 32 = 0 → SX 1 κ 0 s0 q.2 := fun z => by
    have z' := hq'.f32.symm.trans z
    have t := tk z'
    exact ((hs z').1.tr (hq'.smr.sx (p := 0) (g := 0) z' (by omega))).w (by omega) (by omega) (by omega)
  refine ok_bind (PRX.of (N := N) j1.k x1' 303 _ _ j1.1.nm) (fun w hw => ?_)
  obtain ⟨v, a, m, r1, px, ⟨o0, o2, o3, ol⟩, ⟨o9, o10, o11⟩, ri, ra⟩ := hw
  rw [r1]
  show ok (if oK w.2 a 0 then (f_X0_newTarget N (CS.setOl w.2 a x1)).bind fun p26 => if oK p26.2 a 0 then some ((), CS.setO p26.2 a 9 p26.1) else none else none) _
  refine ok_chk px.1.2.1.1 ?_
  have ou1 := (OUV.rf w.2 a).l x1
  have c1 := px.1.1.ol a x1
  have p1 := px.cel ou1 c1
  have U1o : (CS.setOl w.2 a x1).o = w.2.o := co_setOl ..
  have U1l : (CS.setOl w.2 a x1).ol a = x1 := ou1.2.2.2
  have U1i : (CS.setOl w.2 a x1).i = w.2.i := ci_setOl ..
  generalize CS.setOl w.2 a x1 = U at *
  refine ok_bind (q_newTarget N U) (fun n hn => ?_)
  obtain ⟨n1, n2⟩ := hn
  obtain ⟨pn, pno, pnl⟩ := p1.new n1 (by omega) (by omega) c
  have en : U.i 32 = 0 → n.1.toInt = ((tcI U).toNat : Int) := fun z => p1.tc z n2
  obtain ⟨b, hb'⟩ : ∃ b, b = (tcI U).toNat := ⟨_, rfl⟩
  rw [← hb'] at pn en
  refine ok_chk pn.1.2.1.1 (ok_some ?_)
  have ou := (OUV.rf n.2 a).o 9 n.1
  have cT := pn.1.1.o a 9 n.1 (by omega) (by omega)
  have py := pn.cel ou cT
  have To : (CS.setO n.2 a 9 n.1).o a = upd (w.2.o a) 9 n.1 := by
    have := ou.2.2.1
    rw [pno, U1o] at this
    exact this
  have Tl : (CS.setO n.2 a 9 n.1).ol a = x1 := by
    have := ou.2.2.2
    rw [pnl, U1l] at this
    exact this
  have Ti : ∀ j : Nat, j ≠ 21 → (CS.setO n.2 a 9 n.1).i j = w.2.i j := fun j hj => by
    rw [show (CS.setO n.2 a 9 n.1).i = n.2.i from ou.1.2.2.2.2.2.2.2.2.2, n1.2.1 j hj, U1i]
  show STQ H (x - 40) (y + 1) X P lim s0 (CS.setO n.2 a 9 n.1)
  generalize CS.setO n.2 a 9 n.1 = T at *
  have nU : T.i 32 = 0 → U.i 32 = 0 := fun z => by rw [U1i]; rw [Ti 32 (by decide)] at z; exact z
  have T0 : T.o a 0 = 303 := by rw [To]; exact o0
  have T2 : T.o a 2 = T.i 38 := by rw [To, Ti 38 (by decide)]; exact o2.trans (ri 38 (by decide) (by decide)).symm
  have T3 : T.o a 3 = T.i 50 := by rw [To, Ti 50 (by decide)]; exact o3.trans (ri 50 (by decide) (by decide)).symm
  have T9 : T.o a 9 = n.1 := by rw [To]; rfl
  refine (PRX.end (κ := κ) (X' := X) py h0 (by rw [T0]; decide) (fun _ z => List.mem_cons_of_mem _ z) (fun nf DT KT qX qN => ⟨?_, qN, ?_⟩) (fun nf k hk => ?_) (fun nf => py.lm nf) (fun nf => ?_) ?_ (by omega) (by omega) (by omega) (fun nf V v1 v2 v3 => ?_)).w (by omega) (by omega)
  · rw [T2]; exact (py.ds nf).1
  · refine Or.inr (Or.inr (Or.inr (Or.inl ⟨Or.inr T0, rfl, ?_, rfl⟩)))
    rw [T9]; exact TTc.x qX (en (nU nf)) (List.mem_cons_self ..)
  · rcases List.mem_cons.mp hk with e | e
    · right; left
      rw [T0, T9, e]
      exact ⟨by decide, by decide, by decide, by decide, en (nU nf)⟩
    · exact Or.inl e
  · rw [T3]
    exact ⟨py.nm nf, Int.le_refl _⟩
  · unfold sgn; rw [T0]; rfl
  · have sx := py.2 nf
    have e0 : cnI s0 = (m : Int) := by
      have e1 := sx.2.2.2.1.2.1
      have e2 := (py.1.2.2.1 nf).1
      unfold cnI
      rw [← e1, ci_at]
      exact e2
    have e0m : (cnI s0).toNat = m := by omega
    have rs := sx.2.2.2.2.2.1
    have nr := h0.2.1
    rw [e0m] at rs nr
    have k1 := (rs.sums nr).2.2.2.2
    have k2 := (v2.sums v3).2.2.2.2
    have r3 : RSQ T (CS.setI T 53 v) m := fun i _ => ⟨by rw [cr_setI], fun b _ => ⟨by rw [co_setI], by rw [col_setI]⟩⟩
    have nrT : NR T m := fun i hi => by
      obtain ⟨b, eb⟩ := v3 i hi
      exact ⟨b, (v2 i hi).1.trans eb⟩
    have k3 := (r3.sums nrT).2.2.2.2
    have nfs : s.i 32 = 0 := by
      have z := nU nf
      rw [U1i, ri 32 (by decide) (by decide)] at z
      exact hq'.f32.symm.trans z
    exact hq nfs V T m a py.1.2.1.2.1 T0 Tl e0.symm (by rw [← k1, k3, k2]) v1 v2 v3
