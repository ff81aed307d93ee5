/-! both: what was told and what was read stand side by side -/
def TLP (s : CS) (r : RS) : Prop := TXB s r ∧ PRG s r
theorem TLP.of {s S : CS} {r R : RS} (h : TLP s r) (ht : TLD S R) (hp : pCl S = pCl s) (hb : pWd S = pWd s) (rp : pRc R = pRc r) (rb : pRw R = pRw r) (i2 : (R.i 2).toInt ≤ (r.i 2).toInt) : TLP S R := by
  obtain ⟨⟨-, h2, h3, h4⟩, h5⟩ := h
  have c7 : S.i 7 = s.i 7 := congrArg (fun z => z.1) hp
  have c24 : S.i 24 = s.i 24 := congrArg (fun z => z.2.1) hp
  have c25 : S.i 25 = s.i 25 := congrArg (fun z => z.2.2.1) hp
  have c26 : S.i 26 = s.i 26 := congrArg (fun z => z.2.2.2.1) hp
  have c27 : S.i 27 = s.i 27 := congrArg (fun z => z.2.2.2.2.1) hp
  have ca : S.a 0 = s.a 0 := congrArg (fun z => z.2.2.2.2.2) hp
  have d53 : R.i 53 = r.i 53 := congrArg (fun z => z.1) rp
  have d54 : R.i 54 = r.i 54 := congrArg (fun z => z.2.1) rp
  have d55 : R.i 55 = r.i 55 := congrArg (fun z => z.2.2.1) rp
  have d77 : R.i 77 = r.i 77 := congrArg (fun z => z.2.2.2.1) rp
  have d78 : R.i 78 = r.i 78 := congrArg (fun z => z.2.2.2.2.1) rp
  have da : R.a 1 = r.a 1 := congrArg (fun z => z.2.2.2.2.2) rp
  refine ⟨⟨ht, fun k hk => ?_, fun k hk => ?_, fun k hk => ?_⟩, ?_⟩
  · rw [ca, da]
    exact h2 k (by omega)
  · exact (congrFun hb k).trans (h3 k hk)
  · exact (congrFun rb k).trans (h4 k hk)
  · unfold PRG at *
    rw [c7, c24, c25, c26, c27, d53, d54, d55, d77, d78]
    exact h5
theorem i2_le {r R : RS} (h : R.i 2 = r.i 2) : (R.i 2).toInt ≤ (r.i 2).toInt := by
  rw [h]
  exact Int.le_refl _
theorem u_fault {N : Nat} {s : CS} {r : RS} {T : Int32 × CS} {U : Int32 × RS} (h : TLP s r) (e : f_X11_fault N s = some T) (g : f_X12_fault N r = some U) : TLP T.2 U.2 :=
  h.of (t_fault h.1.1 e g) (kC_X11_fault N s T e) (kW_X11_fault N s T e) (kr7_f_X12_fault N r U g) (kr9_f_X12_fault N r U g) (i2_le (kr_f_X12_fault N r U g).2.2.2)
theorem u_ran {N : Nat} {s : CS} {r : RS} {T : Int32 × CS} {U : Int32 × RS} (h : TLP s r) (x1 : Int32) (e : f_X11_ran N s x1 = some T) (g : f_X12_ran N r x1 = some U) : TLP T.2 U.2 :=
  h.of (t_ran h.1.1 x1 e g) (kC_X11_ran N s x1 T e) (kW_X11_ran N s x1 T e) (kr7_f_X12_ran N r x1 U g) (kr9_f_X12_ran N r x1 U g) (i2_le (kr_f_X12_ran N r x1 U g).2.2.2)
theorem u_trace {N : Nat} {s : CS} {r : RS} {T : Int32 × CS} {U : Int32 × RS} (h : TLP s r) (x1 x2 : Int32) (e : f_X11_trace N s x1 x2 = some T) (g : f_X12_trace N r x1 x2 = some U) : TLP T.2 U.2 :=
  h.of (t_trace h.1.1 x1 x2 e g) (kC_X11_trace N s x1 x2 T e) (kW_X11_trace N s x1 x2 T e) (kr7_f_X12_trace N r x1 x2 U g) (kr9_f_X12_trace N r x1 x2 U g) (i2_le (kr_f_X12_trace N r x1 x2 U g).2.2.2)
theorem u_suppressed {N : Nat} {s : CS} {r : RS} {T : Int32 × CS} {U : Int32 × RS} (h : TLP s r) (x1 x2 : Int32) (e : f_X11_suppressed N s x1 x2 = some T) (g : f_X12_suppressed N r x1 x2 = some U) : TLP T.2 U.2 :=
  h.of (t_suppressed h.1.1 x1 x2 e g) (kC_X11_suppressed N s x1 x2 T e) (kW_X11_suppressed N s x1 x2 T e) (kr7_f_X12_suppressed N r x1 x2 U g) (kr9_f_X12_suppressed N r x1 x2 U g) (i2_le (kr_f_X12_suppressed N r x1 x2 U g).2.2.2)
theorem u_resource {N : Nat} {s : CS} {r : RS} {T : Int32 × CS} {U : Int32 × RS} (hr : RB r) (h : TLP s r) (x1 x2 x3 x4 : Int32) (e : f_X11_resource N s x1 x2 x3 x4 = some T) (g : f_X12_resource N r x1 x2 x3 x4 = some U) : TLP T.2 U.2 ∧ T.1 = U.1 :=
  ⟨h.of (t_resource hr h.1.1 x1 x2 x3 x4 e g).1 (kC_X11_resource N s x1 x2 x3 x4 T e) (kW_X11_resource N s x1 x2 x3 x4 T e) (kr7_f_X12_resource N r x1 x2 x3 x4 U g) (kr9_f_X12_resource N r x1 x2 x3 x4 U g) (i2_le (kr_f_X12_resource N r x1 x2 x3 x4 U g).2.2.2), (t_resource hr h.1.1 x1 x2 x3 x4 e g).2⟩
theorem u_cut {N : Nat} {s : CS} {r : RS} {T : Int32 × CS} {U : Int32 × RS} (h : TLP s r) (x1 : Int32) (e : f_X11_cut N s x1 = some T) (g : f_X12_cut N r x1 = some U) : TLP T.2 U.2 ∧ T.1 = U.1 := by
  have t := t_cut h.1.1 x1 e g
  have gx : pRc U.2 = pRc r ∧ pRw U.2 = pRw r ∧ (U.2.i 2).toInt ≤ (r.i 2).toInt := by
    by_cases c : 0 ≤ x1 ∧ x1 ≤ r.i 2
    · have g' : f_X12_cut N r x1 = some (r.i 2 - x1, RS.setI (RS.setI r 0 0) 2 x1) := by
        unfold f_X12_cut
        rw [e_in1 c, ob_some]
        exact if_neg n10
      rw [← Option.some.inj (g'.symm.trans g)]
      exact ⟨rfl, rfl, le_int c.2⟩
    · have g' : f_X12_cut N r x1 = some (-1, RS.setI r 0 0) := by
        unfold f_X12_cut
        rw [e_in0 c, ob_some]
        exact if_pos rfl
      rw [← Option.some.inj (g'.symm.trans g)]
      exact ⟨rfl, rfl, Int.le_refl _⟩
  exact ⟨h.of t.1 (kC_X11_cut N s x1 T e) (kW_X11_cut N s x1 T e) gx.1 gx.2.1 gx.2.2, t.2⟩
theorem u_kind {N : Nat} {s : CS} {r : RS} {T : Int32 × CS} {U : Int32 × RS} (hr : RB r) (h : TLP s r) (x1 : Int32) (e : f_X11_kind N s x1 = some T) (g : f_X12_kind N r x1 = some U) : TLP T.2 U.2 ∧ T.1 = U.1 := by
  have t := t_kind hr h.1.1 x1 e g
  have gx : pRc U.2 = pRc r ∧ pRw U.2 = pRw r ∧ U.2.i 2 = r.i 2 := by
    unfold f_X12_kind at g
    by_cases c : 0 ≤ x1 ∧ x1 ≤ r.i 3 - 1
    · rw [e_in1 c, ob_some] at g
      have g' : (if r.i 3 = 12 then some ((-2 : Int32), RS.setI r 0 0) else if ib (r.i 3) 12 then some (((r.i 3) + 1) - 1, RS.setI (RS.setA (RS.setI r 0 0) 4 (r.i 3).toNatClampNeg x1) 3 (r.i 3 + 1)) else none) = some U := (if_neg n10).symm.trans g
      by_cases d : r.i 3 = 12
      · rw [if_pos d] at g'
        rw [← Option.some.inj g']
        exact ⟨rfl, rfl, rfl⟩
      · rw [if_neg d] at g'
        obtain ⟨-, g'⟩ := hf_ite g'
        rw [← Option.some.inj g']
        exact ⟨rfl, rfl, rfl⟩
    · rw [e_in0 c, ob_some] at g
      have g' : some ((-1 : Int32), RS.setI r 0 0) = some U := (if_pos rfl).symm.trans g
      rw [← Option.some.inj g']
      exact ⟨rfl, rfl, rfl⟩
  exact ⟨h.of t.1 (kC_X11_kind N s x1 T e) (kW_X11_kind N s x1 T e) gx.1 gx.2.1 (i2_le gx.2.2), t.2⟩
theorem u_asserts {N : Nat} {s : CS} {r : RS} {T : Int32 × CS} {U : Int32 × RS} (h : TLP s r) (x1 : Int32) (e : f_X11_asserts N s x1 = some T) (g : f_X12_asserts N r x1 = some U) : TLP T.2 U.2 ∧ T.1 = U.1 := by
  have t := t_asserts h.1.1 x1 e g
  have gx : pRc U.2 = pRc r ∧ pRw U.2 = pRw r ∧ U.2.i 2 = r.i 2 := by
    unfold f_X12_asserts f_X12_asserts_18 at g
    by_cases c : r.i 8 = 0
    · rw [if_pos c] at g
      obtain ⟨-, g⟩ := hf_ite g
      rw [← Option.some.inj g]
      exact ⟨rfl, rfl, rfl⟩
    · rw [if_neg c] at g
      obtain ⟨-, g⟩ := hf_ite g
      rw [← Option.some.inj g]
      exact ⟨rfl, rfl, rfl⟩
  exact ⟨h.of t.1 (kC_X11_asserts N s x1 T e) (kW_X11_asserts N s x1 T e) gx.1 gx.2.1 (i2_le gx.2.2), t.2⟩
theorem u_run {N : Nat} (hN : 10000000000 ≤ N) {h0 : Nat} {s : CS} {r : RS} {T : Int32 × CS} {U : Int32 × RS} (hc : CIV h0 s) (h : TLP s r) (x1 x2 : Int32) (e : f_X11_run N s x1 x2 = some T) (g : f_X12_run N r x1 x2 = some U) : TLP T.2 U.2 := by
  have q : ok (f_X11_run N s x1 x2) (fun R => pCl R.2 = pCl s ∧ pWd R.2 = pWd s) := by
    unfold f_X11_run
    refine ok_ite (fun _ => ok_some ⟨rfl, rfl⟩) (fun c => ?_)
    obtain ⟨Y, hY⟩ : ∃ Y, Y = CS.setI s 8 1 := ⟨_, rfl⟩
    have f2 : ∀ j : Nat, j ≠ 8 → Y.i j = s.i j := fun j hj => by rw [hY]; exact ci_ne _ _ _ hj
    have fa : Y.a = s.a := by rw [hY]; rfl
    have fb : Y.b = s.b := by rw [hY]; rfl
    have cY : CIV h0 Y := by
      refine hc.of (by rw [hY]; exact HSM.i _ _ _) ⟨by rw [f2 14 (by decide)]; exact hc.2.2.2.2.1.1, by rw [f2 13 (by decide)]; exact hc.2.2.2.2.1.2⟩ (by rw [f2 5 (by decide)]; exact hc.2.2.2.2.2.1) (f2 7 (by decide)) ⟨by rw [hY]; rfl, by rw [hY]; rfl, by rw [hY]; rfl, f2 20 (by decide)⟩
    rw [← hY]
    obtain ⟨D, hD⟩ := cY.2.2.2.2.2.2 (by rw [f2 7 (by decide)]; exact c)
    refine ok_bind (q_perform hN cY.1 cY.2.1 hD x1 x2) (fun R hR => ok_some ?_)
    obtain ⟨r1, r2, m1, m2, m3, m4, m5, m6⟩ := hR
    unfold pCl pWd
    refine ⟨?_, ?_⟩
    · show (R.2.i 7, R.2.i 24, R.2.i 25, R.2.i 26, R.2.i 27, R.2.a 0) = _
      rw [m1 7 (by decide), m1 24 (by decide), m1 25 (by decide), m1 26 (by decide), m1 27 (by decide), m2 0 (by decide), f2 7 (by decide), f2 24 (by decide), f2 25 (by decide), f2 26 (by decide), f2 27 (by decide), fa]
    · show R.2.b 40 = _
      rw [m3, fb]
  obtain ⟨a1, a2⟩ := ok_at q e
  exact h.of (t_run hN hc h.1.1 x1 x2 e g) a1 a2 (kr7_f_X12_run N r x1 x2 U g) (kr9_f_X12_run N r x1 x2 U g) (i2_le (kr_f_X12_run N r x1 x2 U g).2.2.2)
theorem rd_167b {N : Nat} {s : RS} {U : Int32 × RS} (g : f_X12_read_167 N s = some U) : U.2.b = s.b := by
  unfold f_X12_read_167 f_X12_read_199 at g
  obtain ⟨-, g⟩ := hf_ite g
  have go : ∀ (X : RS) (v : Int32), X.b = s.b → (if X.i 15 = 0 then some (X.i 53, RS.setI (RS.setI X 79 0) 81 0) else some ((-10) - X.i 16, RS.setI (RS.setI X 79 0) 81 0)) = some U → U.2.b = s.b := fun X _ hX q => by
    by_cases c : X.i 15 = 0
    · rw [if_pos c] at q
      rw [← Option.some.inj q]
      exact hX
    · rw [if_neg c] at q
      rw [← Option.some.inj q]
      exact hX
  by_cases c : s.i 15 = 0
  · rw [if_pos c] at g
    exact go (RS.setI (RS.setI (RS.setI s 78 (s.i 75)) 76 (s.i 15)) 77 1) 0 rfl g
  · rw [if_neg c] at g
    exact go (RS.setI (RS.setI (RS.setI s 78 (s.i 75)) 76 (s.i 15)) 77 0) 0 rfl g
theorem rd_b9 {N : Nat} {r : RS} {U : Int32 × RS} (g : f_X12_read N r = some U) : U.2.b 9 = r.b 9 := by
  obtain ⟨Y, q, V, p7, rz, gq, gV, g7, g⟩ := rd_open g
  have k1 : pRw q = pRw Y := kr9_f_X12_next N Y q gq
  have k2 : pRw V = pRw (RS.setI q 63 (-1)) := kr9_f_X12_push N _ 1 V gV
  have k3 : pRw p7 = pRw V := kr9_f_X12_parse_10 N N V p7 g7
  have k4 : p7.b 9 = r.b 9 := ((k3.trans k2).trans k1).trans rz.1.2.2.2.2.2
  have fin : ∀ (w : Int32 × RS), pRw w.2 = pRw p7 → f_X12_read_138 N w.2 = some U → U.2.b 9 = r.b 9 := fun w hw gw => by
    have hw' : w.2.b 9 = r.b 9 := Eq.trans hw k4
    unfold f_X12_read_138 at gw
    by_cases c : w.2.i 15 = 0
    · rw [if_pos c] at gw
      by_cases d : w.2.i 18 < 0
      · rw [if_pos d] at gw
        exact (congrFun (rd_167b gw) 9).trans hw'
      · rw [if_neg d] at gw
        obtain ⟨v, gv, gw⟩ := hf_bind gw
        have k5 : pRw v = pRw (RS.setI w.2 2 0) := kr9_f_X12_fail N _ _ _ v gv
        exact (congrFun (rd_167b gw) 9).trans (Eq.trans k5 hw')
    · rw [if_neg c] at gw
      exact (congrFun (rd_167b gw) 9).trans hw'
  by_cases c : p7.i 10 = 0
  · rw [if_pos c] at g
    obtain ⟨w, gw, g⟩ := hf_bind g
    exact fin w (kr9_f_X12_can N _ _ w gw) g
  · rw [if_neg c] at g
    obtain ⟨w, gw, g⟩ := hf_bind g
    exact fin w (kr9_f_X12_can N _ _ w gw) g
theorem u_read {N : Nat} (hN : 1000 ≤ N) {h0 : Nat} {s : CS} {r : RS} {T : Int32 × CS} {U : Int32 × RS} (hc : CIV h0 s) (hr : RB r) (h : TLP s r) (e : f_X11_read N (fEE N 23).1 (fEE N 23).2 s = some T) (g : f_X12_read N r = some U) : TLP T.2 U.2 := by
  refine ⟨⟨t_read h.1.1 e g, fun k hk => ?_, fun k hk => ?_, fun k hk => ?_⟩, rd_both hN hc hr h.1 e g⟩
  · rw [(kz_read g).2.2.2, z_t0] at hk
    omega
  · exact (congrFun (kW_X11_read N _ _ (kWEE N 23).1 (kWEE N 23).2 s T e) k).trans (h.1.2.2.1 k hk)
  · exact (congrFun (rd_b9 g) k).trans (h.1.2.2.2 k hk)
theorem u_feed {N : Nat} (hN : 1000 ≤ N) {h0 : Nat} {s : CS} {r : RS} {T : Int32 × CS} {U : Int32 × RS} (hc : CIV h0 s) (h : TLP s r) (x1 x2 x3 x4 x5 : Int32) (e : f_X11_feed N s x1 x2 x3 x4 x5 = some T) (g : f_X12_feed N r x1 x2 x3 x4 x5 = some U) : TLP T.2 U.2 ∧ T.1 = U.1 := by
  have t := t_feed hN hc h.1.1 x1 x2 x3 x4 x5 e g
  refine ⟨?_, t.2⟩
  have kw := kW_X11_feed N s x1 x2 x3 x4 x5 T e
  have h5 := hc.2.2.2.2.2.1
  have e20 : (20 : Int32).toInt = 20 := by decide
  have e9 : (900 : Int32).toInt = 900 := by decide
  have e5 : (s.i 5 + 20).toInt = (s.i 5).toInt + 20 := by rw [toInt_add] <;> rw [e20] <;> omega
  have s5 := h.1.1.1
  by_cases c : s.i 5 + 20 ≤ 900
  · have l := le_int c
    rw [e5, e9] at l
    obtain ⟨p, hp⟩ : ∃ p : Nat, (s.i 5).toInt = (p : Int) := ⟨(s.i 5).toInt.toNat, by omega⟩
    obtain ⟨c1, c2⟩ := fd_cls hp (by omega) e
    unfold f_X12_feed at g
    rw [if_pos (show r.i 2 + 20 ≤ 900 by rw [← s5]; exact c)] at g
    have hp2 : ((RS.setI r 0 0).i 2).toInt = (p : Int) := by
      show (r.i 2).toInt = _
      rw [← s5]
      exact hp
    obtain ⟨d1, d2, d3⟩ := fd_ref (p := p) (by omega) N 0 (RS.setI r 0 0) U (by omega) hp2 g
    have u2 : (U.2.i 2).toInt = (p : Int) + 20 := by
      have z := t.1.1
      rw [← z]
      have w := (ok_at (y_feed hN hc x1 x2 x3 x4 x5) e).1 c
      rw [w.2, e5, hp]
    obtain ⟨⟨-, h2, h3, h4⟩, hP⟩ := h
    refine ⟨⟨t.1, fun k hk => ?_, fun k hk => ?_, fun k hk => ?_⟩, ?_⟩
    · rw [c2 k, d3 k]
      by_cases w : p ≤ k ∧ k < p + 20
      · rw [if_pos w, if_pos (by omega)]
        exact b_eq _ _ (by omega)
      · rw [if_neg w, if_neg (by omega)]
        refine h2 k ?_
        rw [← s5, hp]
        omega
    · exact (congrFun kw k).trans (h3 k hk)
    · rw [d2]
      exact h4 k hk
    · have ri : ∀ j : Nat, j ≠ 0 → j ≠ 2 → U.2.i j = r.i j := fun j a1 a2 => (d1 j a2).trans (ri_ne a1)
      unfold PRG at *
      rw [c1 7 (by decide), c1 24 (by decide), c1 25 (by decide), c1 26 (by decide), c1 27 (by decide), ri 53 (by decide) (by decide), ri 54 (by decide) (by decide), ri 55 (by decide) (by decide), ri 77 (by decide) (by decide), ri 78 (by decide) (by decide)]
      exact hP
  · unfold f_X11_feed at e
    rw [if_neg c] at e
    unfold f_X12_feed at g
    rw [if_neg (show ¬ r.i 2 + 20 ≤ 900 by rw [← s5]; exact c)] at g
    refine h.of t.1 ?_ kw ?_ ?_ ?_
    · rw [← Option.some.inj e]
    · rw [← Option.some.inj g]
      rfl
    · rw [← Option.some.inj g]
      rfl
    · rw [← Option.some.inj g]
      exact Int.le_refl _
/-- what program answers -/
theorem u_program {N : Nat} {s : CS} {r : RS} {T : Int32 × CS} {U : Int32 × RS} (h : TLP s r) (x1 : Int32) (e : f_X11_program N s x1 = some T) (g : f_X12_program N r x1 = some U) : TLP T.2 U.2 ∧ T.1 = U.1 := by
  refine ⟨h.of (t_program h.1.1 x1 e g) (kC_X11_program N s x1 T e) (kW_X11_program N s x1 T e) (kr7_f_X12_program N r x1 U g) (kr9_f_X12_program N r x1 U g) (i2_le (kr_f_X12_program N r x1 U g).2.2.2), ?_⟩
  obtain ⟨-, hp⟩ := h
  unfold f_X11_program f_X11_program_9 at e
  unfold f_X12_program at g
  by_cases c : 0 ≤ x1 ∧ x1 ≤ 3
  · rw [if_neg (Int32.not_lt.mpr c.1), if_pos c.2] at e
    rw [e_in1 c, ob_some] at g
    have g' : (if r.i 77 = 0 then some ((-3 : Int32), RS.setI r 0 0) else (if x1 = 0 then some (r.i 53, RS.setI r 0 0) else (if x1 = 1 then (if r.i 78 = 0 then some (0, RS.setI r 0 0) else some (1, RS.setI r 0 0)) else (if x1 = 2 then some (r.i 54, RS.setI r 0 0) else some (r.i 55, RS.setI r 0 0))))) = some U := (if_neg n10).symm.trans g
    rcases hp with ⟨z1, z2⟩ | ⟨⟨z1, z2⟩, q1, q2, q3, q4⟩
    · rw [if_pos z1] at e
      rw [if_pos z2] at g'
      rw [← Option.some.inj e, ← Option.some.inj g']
    · rw [if_neg z1] at e
      rw [if_neg z2] at g'
      by_cases x0 : x1 = 0
      · rw [if_pos x0] at e g'
        rw [← Option.some.inj e, ← Option.some.inj g']
        exact q1
      · rw [if_neg x0] at e g'
        by_cases x1' : x1 = 1
        · rw [if_pos x1'] at e g'
          by_cases y : s.i 27 = 0
          · rw [if_pos y] at e
            rw [if_pos (q4.mp y)] at g'
            rw [← Option.some.inj e, ← Option.some.inj g']
          · rw [if_neg y] at e
            rw [if_neg (fun w => y (q4.mpr w))] at g'
            rw [← Option.some.inj e, ← Option.some.inj g']
        · rw [if_neg x1'] at e g'
          by_cases x2 : x1 = 2
          · rw [if_pos x2] at e g'
            rw [← Option.some.inj e, ← Option.some.inj g']
            exact q2
          · rw [if_neg x2] at e g'
            rw [← Option.some.inj e, ← Option.some.inj g']
            exact q3
  · rw [e_in0 c, ob_some] at g
    have g' : some ((-1 : Int32), RS.setI r 0 0) = some U := (if_pos rfl).symm.trans g
    have e' : some ((-1 : Int32), s) = some T := by
      by_cases d : x1 < 0
      · rw [if_pos d] at e
        exact e
      · rw [if_neg d, if_neg (fun q => c ⟨Int32.not_lt.mp d, q⟩)] at e
        exact e
    rw [← Option.some.inj e', ← Option.some.inj g']
theorem u_under {N : Nat} (hN : 1000 ≤ N) {s : CS} {r : RS} {T : Int32 × CS} {U : Int32 × RS} (hr : RB r) (h : TLP s r) (x1 x2 : Int32) (e : f_X11_under N s x1 x2 = some T) (g : f_X12_under N r x1 x2 = some U) : TLP T.2 U.2 ∧ T.1 = U.1 :=
  ⟨h.of (t_under hN hr h.1.1 x1 x2 e g).1 (kC_X11_under N s x1 x2 T e) (kW_X11_under N s x1 x2 T e) (kr7_f_X12_under N r x1 x2 U g) (kr9_f_X12_under N r x1 x2 U g) (i2_le (kr_f_X12_under N r x1 x2 U g).2.2.2), (t_under hN hr h.1.1 x1 x2 e g).2⟩
theorem u_rounds {N : Nat} {s : CS} {r : RS} {U : Int32 × RS} (h : TLP s r) (x1 x2 : Int32) (g : f_X12_rounds N r x1 x2 = some U) : TLP s U.2 :=
  h.of (h.1.1.of rfl rfl rfl rfl (kr_f_X12_rounds N r x1 x2 U g)) rfl rfl (kr7_f_X12_rounds N r x1 x2 U g) (kr9_f_X12_rounds N r x1 x2 U g) (i2_le (kr_f_X12_rounds N r x1 x2 U g).2.2.2)
