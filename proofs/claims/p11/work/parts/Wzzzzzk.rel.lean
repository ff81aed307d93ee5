/-! both: what was told, what was read, its code, and what a run left stand side by side -/
def TLP (s : CS) (r : RS) : Prop := TXB s r ∧ PRG s r ∧ (¬ r.i 77 = 0 → CDX s r) ∧ RSC s r ∧ RNA s r
theorem CDX.cg {s S : CS} {r R : RS} (c : CDX s r) (h : CGE s S r R) (e : S.i 23 = s.i 23) : CDX S R := by
  obtain ⟨nm, AL, c1, c2, c3, c4⟩ := c
  refine ⟨nm, AL, CODW.cg h c1, c2, c3, ?_⟩
  rw [e]
  exact c4
theorem hS_eq {r R : RS} (h : R.a 91 = r.a 91) : ∀ n : Nat, hS R n = hS r n
  | 0 => rfl
  | n + 1 => by
    show hS R n + R.a 91 n = hS r n + r.a 91 n
    rw [h, hS_eq h n]
theorem RSC.of {s S : CS} {r R : RS} (h : RSC s r) (hs : pSc S = pSc s) (rs : pRs R = pRs r) : RSC S R := by
  have a1 : S.a 10 = s.a 10 := congrArg (fun z => z.1) hs
  have a2 : S.a 11 = s.a 11 := congrArg (fun z => z.2.1) hs
  have a3 : S.a 12 = s.a 12 := congrArg (fun z => z.2.2.1) hs
  have b1 : R.a 5 = r.a 5 := congrArg (fun z => z.1) rs
  have b2 : R.a 6 = r.a 6 := congrArg (fun z => z.2.1) rs
  have b3 : R.a 7 = r.a 7 := congrArg (fun z => z.2.2.1) rs
  intro k hk
  rw [a1, a2, a3, b1, b2, b3]
  exact h k hk
theorem RNA.of {s S : CS} {r R : RS} (h : RNA s r) (hn : pNl S = pNl s) (rn : pRn R = pRn r) : RNA S R := by
  have c8 : S.i 8 = s.i 8 := congrArg (fun z => z.2.2.2.2.1) hn
  have c69 : S.i 69 = s.i 69 := congrArg (fun z => z.2.2.2.2.2.1) hn
  have c70 : S.i 70 = s.i 70 := congrArg (fun z => z.2.2.2.2.2.2.1) hn
  have c71 : S.i 71 = s.i 71 := congrArg (fun z => z.2.2.2.2.2.2.2.1) hn
  have c72 : S.i 72 = s.i 72 := congrArg (fun z => z.2.2.2.2.2.2.2.2.1) hn
  have c74 : S.i 74 = s.i 74 := congrArg (fun z => z.2.2.2.2.2.2.2.2.2.1) hn
  have c64 : S.a 64 = s.a 64 := congrArg (fun z => z.2.2.2.2.2.2.2.2.2.2.1) hn
  have cw : S.w = s.w := congrArg (fun z => z.2.2.2.2.2.2.2.2.2.2.2.1) hn
  have co : S.o = s.o := congrArg (fun z => z.2.2.2.2.2.2.2.2.2.2.2.2.1) hn
  have ca : S.oa = s.oa := congrArg (fun z => z.2.2.2.2.2.2.2.2.2.2.2.2.2) hn
  have d79 : R.i 79 = r.i 79 := congrArg (fun z => z.1) rn
  have d80 : R.i 80 = r.i 80 := congrArg (fun z => z.2.1) rn
  have d81 : R.i 81 = r.i 81 := congrArg (fun z => z.2.2.1) rn
  have d113 : R.i 113 = r.i 113 := congrArg (fun z => z.2.2.2.1) rn
  have d114 : R.i 114 = r.i 114 := congrArg (fun z => z.2.2.2.2.1) rn
  have d115 : R.i 115 = r.i 115 := congrArg (fun z => z.2.2.2.2.2.1) rn
  have d82 : R.a 82 = r.a 82 := congrArg (fun z => z.2.2.2.2.2.2.1) rn
  have d83 : R.a 83 = r.a 83 := congrArg (fun z => z.2.2.2.2.2.2.2.1) rn
  have d86 : R.a 86 = r.a 86 := congrArg (fun z => z.2.2.2.2.2.2.2.2.1) rn
  have d87 : R.a 87 = r.a 87 := congrArg (fun z => z.2.2.2.2.2.2.2.2.2.1) rn
  have d88 : R.a 88 = r.a 88 := congrArg (fun z => z.2.2.2.2.2.2.2.2.2.2.1) rn
  have d89 : R.a 89 = r.a 89 := congrArg (fun z => z.2.2.2.2.2.2.2.2.2.2.2.1) rn
  have d90 : R.a 90 = r.a 90 := congrArg (fun z => z.2.2.2.2.2.2.2.2.2.2.2.2.1) rn
  have d91 : R.a 91 = r.a 91 := congrArg (fun z => z.2.2.2.2.2.2.2.2.2.2.2.2.2) rn
  unfold RNA RNZ THG at *
  simp only [c8, c69, c70, c71, c72, c74, c64, cw, co, ca, d79, d80, d81, d113, d114, d115, d82, d83, d86, d87, d88, d89, d90, hS_eq d91 8]
  exact h
theorem rq_a {r R : RS} (h : pRq R = pRq r) : ∀ k : Nat, 21 ≤ k → k ≤ 37 → R.a k = r.a k := by
  have e21 : R.a 21 = r.a 21 := congrArg (fun z => z.2.2.1) h
  have e22 : R.a 22 = r.a 22 := congrArg (fun z => z.2.2.2.1) h
  have e23 : R.a 23 = r.a 23 := congrArg (fun z => z.2.2.2.2.1) h
  have e24 : R.a 24 = r.a 24 := congrArg (fun z => z.2.2.2.2.2.1) h
  have e25 : R.a 25 = r.a 25 := congrArg (fun z => z.2.2.2.2.2.2.1) h
  have e26 : R.a 26 = r.a 26 := congrArg (fun z => z.2.2.2.2.2.2.2.1) h
  have e27 : R.a 27 = r.a 27 := congrArg (fun z => z.2.2.2.2.2.2.2.2.1) h
  have e28 : R.a 28 = r.a 28 := congrArg (fun z => z.2.2.2.2.2.2.2.2.2.1) h
  have e29 : R.a 29 = r.a 29 := congrArg (fun z => z.2.2.2.2.2.2.2.2.2.2.1) h
  have e30 : R.a 30 = r.a 30 := congrArg (fun z => z.2.2.2.2.2.2.2.2.2.2.2.1) h
  have e31 : R.a 31 = r.a 31 := congrArg (fun z => z.2.2.2.2.2.2.2.2.2.2.2.2.1) h
  have e32 : R.a 32 = r.a 32 := congrArg (fun z => z.2.2.2.2.2.2.2.2.2.2.2.2.2.1) h
  have e33 : R.a 33 = r.a 33 := congrArg (fun z => z.2.2.2.2.2.2.2.2.2.2.2.2.2.2.1) h
  have e34 : R.a 34 = r.a 34 := congrArg (fun z => z.2.2.2.2.2.2.2.2.2.2.2.2.2.2.2.1) h
  have e35 : R.a 35 = r.a 35 := congrArg (fun z => z.2.2.2.2.2.2.2.2.2.2.2.2.2.2.2.2.1) h
  have e36 : R.a 36 = r.a 36 := congrArg (fun z => z.2.2.2.2.2.2.2.2.2.2.2.2.2.2.2.2.2.1) h
  have e37 : R.a 37 = r.a 37 := congrArg (fun z => z.2.2.2.2.2.2.2.2.2.2.2.2.2.2.2.2.2.2) h
  intro k h1 h2
  obtain ⟨m, rfl⟩ : ∃ m : Nat, k = 21 + m := ⟨k - 21, by omega⟩
  match m, h2 with
  | 0, _ => exact e21
  | 1, _ => exact e22
  | 2, _ => exact e23
  | 3, _ => exact e24
  | 4, _ => exact e25
  | 5, _ => exact e26
  | 6, _ => exact e27
  | 7, _ => exact e28
  | 8, _ => exact e29
  | 9, _ => exact e30
  | 10, _ => exact e31
  | 11, _ => exact e32
  | 12, _ => exact e33
  | 13, _ => exact e34
  | 14, _ => exact e35
  | 15, _ => exact e36
  | 16, _ => exact e37
  | m + 17, q => exact absurd q (by omega)
theorem TLP.of {s S : CS} {r R : RS} (h : TLP s r) (ht : TLD S R) (hp : pCl S = pCl s) (hb : pWd S = pWd s) (rp : pRc R = pRc r) (rb : pRw R = pRw r) (i2 : (R.i 2).toInt ≤ (r.i 2).toInt) (hq : pQl S = pQl s) (rq : pRq R = pRq r) (i3 : (r.i 3).toInt ≤ (R.i 3).toInt) (hs : RSC S R) (ha : RNA S R) : TLP S R := by
  obtain ⟨⟨-, h2, h3, h4⟩, h5, h6, -, -⟩ := h
  have c7 : S.i 7 = s.i 7 := congrArg (fun z => z.1) hp
  have c24 : S.i 24 = s.i 24 := congrArg (fun z => z.2.1) hp
  have c25 : S.i 25 = s.i 25 := congrArg (fun z => z.2.2.1) hp
  have c26 : S.i 26 = s.i 26 := congrArg (fun z => z.2.2.2.1) hp
  have c27 : S.i 27 = s.i 27 := congrArg (fun z => z.2.2.2.2.1) hp
  have ca : S.a 0 = s.a 0 := congrArg (fun z => z.2.2.2.2.2) hp
  have d53 : R.i 53 = r.i 53 := congrArg (fun z => z.1) rp
  have d54 : R.i 54 = r.i 54 := congrArg (fun z => z.2.1) rp
  have d55 : R.i 55 = r.i 55 := congrArg (fun z => z.2.2.1) rp
  have d77 : R.i 77 = r.i 77 := congrArg (fun z => z.2.2.2.1) rp
  have d78 : R.i 78 = r.i 78 := congrArg (fun z => z.2.2.2.2.1) rp
  have da : R.a 1 = r.a 1 := congrArg (fun z => z.2.2.2.2.2) rp
  refine ⟨⟨ht, fun k hk => ?_, fun k hk => ?_, fun k hk => ?_⟩, ?_, fun z => ?_, hs, ha⟩
  · rw [ca, da]
    exact h2 k (by omega)
  · exact (congrFun hb k).trans (h3 k hk)
  · exact (congrFun rb k).trans (h4 k hk)
  · unfold PRG at *
    rw [c7, c24, c25, c26, c27, d53, d54, d55, d77, d78]
    exact h5
  · refine (h6 (fun w => z (d77.trans w))).cg ⟨⟨congrArg (fun z => z.1) hq, congrArg (fun z => z.2.1) hq, congrArg (fun z => z.2.2.1) hq⟩, rq_a rq, i3, congrArg (fun z => z.1) rq, congrArg (fun z => z.2.1) rq⟩ (congrArg (fun z => z.2.2.2) hq)
theorem i2_le {r R : RS} (h : R.i 2 = r.i 2) : (R.i 2).toInt ≤ (r.i 2).toInt := by
  rw [h]
  exact Int.le_refl _
theorem i3_le {r R : RS} (h : R.i 3 = r.i 3) : (r.i 3).toInt ≤ (R.i 3).toInt := by
  rw [h]
  exact Int.le_refl _
theorem ql_nl {s S : CS} (h : pNl S = pNl s) : pQl S = pQl s := by
  have a1 : S.a 15 = s.a 15 := congrArg (fun z => z.1) h
  have a2 : S.a 16 = s.a 16 := congrArg (fun z => z.2.1) h
  have a3 : S.a 17 = s.a 17 := congrArg (fun z => z.2.2.1) h
  have a4 : S.i 23 = s.i 23 := congrArg (fun z => z.2.2.2.1) h
  unfold pQl
  rw [a1, a2, a3, a4]
theorem u_fault {N : Nat} {s : CS} {r : RS} {T : Int32 × CS} {U : Int32 × RS} (h : TLP s r) (e : f_X11_fault N s = some T) (g : f_X12_fault N r = some U) : TLP T.2 U.2 :=
  h.of (t_fault h.1.1 e g) (kC_X11_fault N s T e) (kW_X11_fault N s T e) (kr7_f_X12_fault N r U g) (kr9_f_X12_fault N r U g) (i2_le (kr_f_X12_fault N r U g).2.2.2) (ql_nl (kN_X11_fault N s T e)) (krc5_f_X12_fault N r U g) (i3_le (kr_f_X12_fault N r U g).1) (h.2.2.2.1.of (kS_X11_fault N s T e) (krs6_f_X12_fault N r U g)) (h.2.2.2.2.of (kN_X11_fault N s T e) (krn6_f_X12_fault N r U g))
theorem u_ran {N : Nat} {s : CS} {r : RS} {T : Int32 × CS} {U : Int32 × RS} (h : TLP s r) (x1 : Int32) (e : f_X11_ran N s x1 = some T) (g : f_X12_ran N r x1 = some U) : TLP T.2 U.2 :=
  h.of (t_ran h.1.1 x1 e g) (kC_X11_ran N s x1 T e) (kW_X11_ran N s x1 T e) (kr7_f_X12_ran N r x1 U g) (kr9_f_X12_ran N r x1 U g) (i2_le (kr_f_X12_ran N r x1 U g).2.2.2) (ql_nl (kN_X11_ran N s x1 T e)) (krc5_f_X12_ran N r x1 U g) (i3_le (kr_f_X12_ran N r x1 U g).1) (h.2.2.2.1.of (kS_X11_ran N s x1 T e) (krs6_f_X12_ran N r x1 U g)) (h.2.2.2.2.of (kN_X11_ran N s x1 T e) (krn6_f_X12_ran N r x1 U g))
theorem u_trace {N : Nat} {s : CS} {r : RS} {T : Int32 × CS} {U : Int32 × RS} (h : TLP s r) (x1 x2 : Int32) (e : f_X11_trace N s x1 x2 = some T) (g : f_X12_trace N r x1 x2 = some U) : TLP T.2 U.2 :=
  h.of (t_trace h.1.1 x1 x2 e g) (kC_X11_trace N s x1 x2 T e) (kW_X11_trace N s x1 x2 T e) (kr7_f_X12_trace N r x1 x2 U g) (kr9_f_X12_trace N r x1 x2 U g) (i2_le (kr_f_X12_trace N r x1 x2 U g).2.2.2) (ql_nl (kN_X11_trace N s x1 x2 T e)) (krc5_f_X12_trace N r x1 x2 U g) (i3_le (kr_f_X12_trace N r x1 x2 U g).1) (h.2.2.2.1.of (kS_X11_trace N s x1 x2 T e) (krs6_f_X12_trace N r x1 x2 U g)) (h.2.2.2.2.of (kN_X11_trace N s x1 x2 T e) (krn6_f_X12_trace N r x1 x2 U g))
theorem u_suppressed {N : Nat} {s : CS} {r : RS} {T : Int32 × CS} {U : Int32 × RS} (h : TLP s r) (x1 x2 : Int32) (e : f_X11_suppressed N s x1 x2 = some T) (g : f_X12_suppressed N r x1 x2 = some U) : TLP T.2 U.2 :=
  h.of (t_suppressed h.1.1 x1 x2 e g) (kC_X11_suppressed N s x1 x2 T e) (kW_X11_suppressed N s x1 x2 T e) (kr7_f_X12_suppressed N r x1 x2 U g) (kr9_f_X12_suppressed N r x1 x2 U g) (i2_le (kr_f_X12_suppressed N r x1 x2 U g).2.2.2) (ql_nl (kN_X11_suppressed N s x1 x2 T e)) (krc5_f_X12_suppressed N r x1 x2 U g) (i3_le (kr_f_X12_suppressed N r x1 x2 U g).1) (h.2.2.2.1.of (kS_X11_suppressed N s x1 x2 T e) (krs6_f_X12_suppressed N r x1 x2 U g)) (h.2.2.2.2.of (kN_X11_suppressed N s x1 x2 T e) (krn6_f_X12_suppressed N r x1 x2 U g))
theorem u_resource {N : Nat} {s : CS} {r : RS} {T : Int32 × CS} {U : Int32 × RS} (hr : RB r) (h : TLP s r) (x1 x2 x3 x4 : Int32) (e : f_X11_resource N s x1 x2 x3 x4 = some T) (g : f_X12_resource N r x1 x2 x3 x4 = some U) : TLP T.2 U.2 ∧ T.1 = U.1 :=
  ⟨h.of (t_resource hr h.1.1 x1 x2 x3 x4 e g).1 (kC_X11_resource N s x1 x2 x3 x4 T e) (kW_X11_resource N s x1 x2 x3 x4 T e) (kr7_f_X12_resource N r x1 x2 x3 x4 U g) (kr9_f_X12_resource N r x1 x2 x3 x4 U g) (i2_le (kr_f_X12_resource N r x1 x2 x3 x4 U g).2.2.2) (ql_nl (kN_X11_resource N s x1 x2 x3 x4 T e)) (krc5_f_X12_resource N r x1 x2 x3 x4 U g) (i3_le (kr_f_X12_resource N r x1 x2 x3 x4 U g).1) (w_resource hr h.1.1 h.2.2.2.1 x1 x2 x3 x4 e g) (h.2.2.2.2.of (kN_X11_resource N s x1 x2 x3 x4 T e) (krn6_f_X12_resource N r x1 x2 x3 x4 U g)), (t_resource hr h.1.1 x1 x2 x3 x4 e g).2⟩
theorem u_cut {N : Nat} {s : CS} {r : RS} {T : Int32 × CS} {U : Int32 × RS} (h : TLP s r) (x1 : Int32) (e : f_X11_cut N s x1 = some T) (g : f_X12_cut N r x1 = some U) : TLP T.2 U.2 ∧ T.1 = U.1 := by
  have t := t_cut h.1.1 x1 e g
  have gx : pRc U.2 = pRc r ∧ pRw U.2 = pRw r ∧ (U.2.i 2).toInt ≤ (r.i 2).toInt ∧ pRq U.2 = pRq r ∧ pRs U.2 = pRs r ∧ pRn U.2 = pRn r ∧ U.2.i 3 = r.i 3 := by
    by_cases c : 0 ≤ x1 ∧ x1 ≤ r.i 2
    · have g' : f_X12_cut N r x1 = some (r.i 2 - x1, RS.setI (RS.setI r 0 0) 2 x1) := by
        unfold f_X12_cut
        rw [e_in1 c, ob_some]
        exact if_neg n10
      rw [← Option.some.inj (g'.symm.trans g)]
      exact ⟨rfl, rfl, le_int c.2, rfl, rfl, rfl, rfl⟩
    · have g' : f_X12_cut N r x1 = some (-1, RS.setI r 0 0) := by
        unfold f_X12_cut
        rw [e_in0 c, ob_some]
        exact if_pos rfl
      rw [← Option.some.inj (g'.symm.trans g)]
      exact ⟨rfl, rfl, Int.le_refl _, rfl, rfl, rfl, rfl⟩
  obtain ⟨g1, g2, g3, g4, g5, g6, g7⟩ := gx
  exact ⟨h.of t.1 (kC_X11_cut N s x1 T e) (kW_X11_cut N s x1 T e) g1 g2 g3 (ql_nl (kN_X11_cut N s x1 T e)) g4 (i3_le g7) (h.2.2.2.1.of (kS_X11_cut N s x1 T e) g5) (h.2.2.2.2.of (kN_X11_cut N s x1 T e) g6), t.2⟩
theorem u_kind {N : Nat} {s : CS} {r : RS} {T : Int32 × CS} {U : Int32 × RS} (hr : RB r) (h : TLP s r) (x1 : Int32) (e : f_X11_kind N s x1 = some T) (g : f_X12_kind N r x1 = some U) : TLP T.2 U.2 ∧ T.1 = U.1 := by
  have t := t_kind hr h.1.1 x1 e g
  have gx : pRc U.2 = pRc r ∧ pRw U.2 = pRw r ∧ U.2.i 2 = r.i 2 ∧ pRq U.2 = pRq r ∧ pRs U.2 = pRs r ∧ pRn U.2 = pRn r ∧ (r.i 3).toInt ≤ (U.2.i 3).toInt := by
    unfold f_X12_kind at g
    by_cases c : 0 ≤ x1 ∧ x1 ≤ r.i 3 - 1
    · rw [e_in1 c, ob_some] at g
      have g' : (if r.i 3 = 12 then some ((-2 : Int32), RS.setI r 0 0) else if ib (r.i 3) 12 then some (((r.i 3) + 1) - 1, RS.setI (RS.setA (RS.setI r 0 0) 4 (r.i 3).toNatClampNeg x1) 3 (r.i 3 + 1)) else none) = some U := (if_neg n10).symm.trans g
      by_cases d : r.i 3 = 12
      · rw [if_pos d] at g'
        rw [← Option.some.inj g']
        exact ⟨rfl, rfl, rfl, rfl, rfl, rfl, Int.le_refl _⟩
      · rw [if_neg d] at g'
        obtain ⟨-, g'⟩ := hf_ite g'
        rw [← Option.some.inj g']
        have r3 := hr.2.1
        have l1 := le_int r3.1
        have l2 := le_int r3.2
        have e4 : (4 : Int32).toInt = 4 := by decide
        have e12 : (12 : Int32).toInt = 12 := by decide
        have e1 : (1 : Int32).toInt = 1 := by decide
        refine ⟨rfl, rfl, rfl, rfl, rfl, rfl, ?_⟩
        show (r.i 3).toInt ≤ (r.i 3 + 1).toInt
        rw [toInt_add] <;> omega
    · rw [e_in0 c, ob_some] at g
      have g' : some ((-1 : Int32), RS.setI r 0 0) = some U := (if_pos rfl).symm.trans g
      rw [← Option.some.inj g']
      exact ⟨rfl, rfl, rfl, rfl, rfl, rfl, Int.le_refl _⟩
  obtain ⟨g1, g2, g3, g4, g5, g6, g7⟩ := gx
  exact ⟨h.of t.1 (kC_X11_kind N s x1 T e) (kW_X11_kind N s x1 T e) g1 g2 (i2_le g3) (ql_nl (kN_X11_kind N s x1 T e)) g4 g7 (h.2.2.2.1.of (kS_X11_kind N s x1 T e) g5) (h.2.2.2.2.of (kN_X11_kind N s x1 T e) g6), t.2⟩
theorem u_asserts {N : Nat} {s : CS} {r : RS} {T : Int32 × CS} {U : Int32 × RS} (h : TLP s r) (x1 : Int32) (e : f_X11_asserts N s x1 = some T) (g : f_X12_asserts N r x1 = some U) : TLP T.2 U.2 ∧ T.1 = U.1 := by
  have t := t_asserts h.1.1 x1 e g
  have gx : pRc U.2 = pRc r ∧ pRw U.2 = pRw r ∧ U.2.i 2 = r.i 2 ∧ pRq U.2 = pRq r ∧ pRs U.2 = pRs r ∧ pRn U.2 = pRn r ∧ (r.i 3).toInt ≤ (U.2.i 3).toInt := by
    unfold f_X12_asserts f_X12_asserts_18 at g
    by_cases c : r.i 8 = 0
    · rw [if_pos c] at g
      obtain ⟨-, g⟩ := hf_ite g
      rw [← Option.some.inj g]
      exact ⟨rfl, rfl, rfl, rfl, rfl, rfl, Int.le_refl _⟩
    · rw [if_neg c] at g
      obtain ⟨-, g⟩ := hf_ite g
      rw [← Option.some.inj g]
      exact ⟨rfl, rfl, rfl, rfl, rfl, rfl, Int.le_refl _⟩
  obtain ⟨g1, g2, g3, g4, g5, g6, g7⟩ := gx
  exact ⟨h.of t.1 (kC_X11_asserts N s x1 T e) (kW_X11_asserts N s x1 T e) g1 g2 (i2_le g3) (ql_nl (kN_X11_asserts N s x1 T e)) g4 g7 (h.2.2.2.1.of (kS_X11_asserts N s x1 T e) g5) (h.2.2.2.2.of (kN_X11_asserts N s x1 T e) g6), t.2⟩
theorem rn_rs {N : Nat} {r : RS} {x1 x2 : Int32} {U : Int32 × RS} (h77 : ¬ r.i 77 = 0) (g : f_X12_run N r x1 x2 = some U) : pRs U.2 = (r.a 5, r.a 6, r.a 7, 1) := by
  unfold f_X12_run at g
  rw [if_neg h77] at g
  obtain ⟨X, g1, -, g3, -⟩ := rz_17 N (RS.setI r 0 0) 0 (by decide) (fun k hk => by rw [z_t0] at hk; omega) g
  obtain ⟨Z, z1, -, z3, -⟩ := rz_39 N X 0 (by decide) (fun k hk => by rw [z_t0] at hk; omega) g1
  obtain ⟨A, hA⟩ : ∃ A, A = RS.setI (RS.setI (RS.setI (RS.setI (RS.setI (RS.setI (RS.setI (RS.setI (RS.setI (RS.setI (RS.setA (RS.setA Z 84 0 x1) 84 1 x2) 80 0) 81 0) 85 0) 95 0) 97 0) 99 0) 93 0) 79 1) 115 0) 92 0 := ⟨_, rfl⟩
  rw [← hA] at z1
  have kA : pRs A = (Z.a 5, Z.a 6, Z.a 7, 1) := by
    rw [hA]
    rfl
  clear hA
  rw [z3 5 (by decide), z3 6 (by decide), z3 7 (by decide), g3 5 (by decide), g3 6 (by decide), g3 7 (by decide)] at kA
  exact Eq.trans (krs6_f_X12_run_122 N N A U z1) kA
theorem u_run {N : Nat} (hN : 10000000000 ≤ N) {h0 : Nat} {s : CS} {r : RS} {T : Int32 × CS} {U : Int32 × RS} (hc : CIV h0 s) (hr : RB r) (h : TLP s r) (x1 x2 : Int32) (e : f_X11_run N s x1 x2 = some T) (g : f_X12_run N r x1 x2 = some U) : TLP T.2 U.2 ∧ T.1 = U.1 := by
  have t := t_run hN hc h.1.1 x1 x2 e g
  rcases h.2.1 with ⟨z1, z2⟩ | ⟨⟨z1, z2⟩, -⟩
  · unfold f_X11_run at e
    rw [if_pos z1] at e
    unfold f_X12_run at g
    rw [if_pos z2] at g
    rw [← Option.some.inj e, ← Option.some.inj g] at t ⊢
    exact ⟨h.of t rfl rfl rfl rfl (Int.le_refl _) rfl rfl (Int.le_refl _) (h.2.2.2.1.of rfl rfl) (h.2.2.2.2.of rfl rfl), rfl⟩
  · have k7 := kr7_f_X12_run N r x1 x2 U g
    have k9 := kr9_f_X12_run N r x1 x2 U g
    have kk := kr_f_X12_run N r x1 x2 U g
    have kq := krc5_f_X12_run N r x1 x2 U g
    have ks := rn_rs z2 g
    unfold f_X11_run at e
    rw [if_neg z1] at e
    obtain ⟨Y, hY⟩ : ∃ Y, Y = CS.setI s 8 1 := ⟨_, rfl⟩
    have f2 : ∀ j : Nat, j ≠ 8 → Y.i j = s.i j := fun j hj => by rw [hY]; exact ci_ne _ _ _ hj
    have f8 : Y.i 8 = 1 := by rw [hY]; exact ci_at _ _ _
    have fa : Y.a = s.a := by rw [hY]; rfl
    have fb : Y.b = s.b := by rw [hY]; rfl
    have cY : CIV h0 Y := by
      refine hc.of (by rw [hY]; exact HSM.i _ _ _) ⟨by rw [f2 14 (by decide)]; exact hc.2.2.2.2.1.1, by rw [f2 13 (by decide)]; exact hc.2.2.2.2.1.2⟩ (by rw [f2 5 (by decide)]; exact hc.2.2.2.2.2.1) (f2 7 (by decide)) ⟨by rw [hY]; rfl, by rw [hY]; rfl, by rw [hY]; rfl, f2 20 (by decide)⟩
    rw [← hY] at e
    clear hY
    obtain ⟨P, eP, e⟩ := hf_bind e
    have eT : T = (P.1, P.2) := (Option.some.inj e).symm
    obtain ⟨D, hD⟩ := cY.2.2.2.2.2.2 (by rw [f2 7 (by decide)]; exact z1)
    obtain ⟨r1, r2, m1, m2, m3, m4, m5, m6⟩ := ok_at (q_perform hN cY.1 cY.2.1 hD x1 x2) eP
    have cd : CDX Y (RS.setI r 0 0) := (h.2.2.1 z2).cg ⟨⟨by rw [fa], by rw [fa], by rw [fa]⟩, fun _ _ _ => rfl, Int.le_refl _, rfl, rfl⟩ (f2 23 (by decide))
    obtain ⟨nm, AL, c1, c2, c3, c4⟩ := cd
    have tl : TLR Y (RS.setI r 0 0) := by
      refine ⟨fun k hk => ?_, ⟨?_, ?_, ?_, ?_, fun k h1 h2 => ?_⟩, hr⟩
      · rw [fa]
        exact h.2.2.2.1 k hk
      · rw [f2 5 (by decide)]
        exact h.1.1.1
      · rw [f2 13 (by decide)]
        exact h.1.1.2.1
      · rw [f2 14 (by decide)]
        exact h.1.1.2.2.1
      · rw [fa]
        exact h.1.1.2.2.2.1
      · rw [fa]
        exact h.1.1.2.2.2.2 k h1 h2
    obtain ⟨nz, an⟩ := rn_both hN cY.1 cY.2.1 hD c1 tl c2 c3 c4 z2 eP g
    rw [eT] at t ⊢
    refine ⟨h.of t ?_ ?_ k7 k9 (i2_le kk.2.2.2) ?_ kq (i3_le kk.1) ?_ (Or.inr ⟨⟨?_, ?_⟩, nz⟩), an⟩
    · show (P.2.i 7, P.2.i 24, P.2.i 25, P.2.i 26, P.2.i 27, P.2.a 0) = (s.i 7, s.i 24, s.i 25, s.i 26, s.i 27, s.a 0)
      rw [m1 7 (by decide), m1 24 (by decide), m1 25 (by decide), m1 26 (by decide), m1 27 (by decide), m2 0 (by decide), f2 7 (by decide), f2 24 (by decide), f2 25 (by decide), f2 26 (by decide), f2 27 (by decide), fa]
    · show P.2.b 40 = s.b 40
      rw [m3, fb]
    · show (P.2.a 15, P.2.a 16, P.2.a 17, P.2.i 23) = (s.a 15, s.a 16, s.a 17, s.i 23)
      rw [m2 15 (by decide), m2 16 (by decide), m2 17 (by decide), m1 23 (by decide), f2 23 (by decide), fa]
    · intro k hk
      have b1 : U.2.a 5 = r.a 5 := congrArg (fun z => z.1) ks
      have b2 : U.2.a 6 = r.a 6 := congrArg (fun z => z.2.1) ks
      have b3 : U.2.a 7 = r.a 7 := congrArg (fun z => z.2.2.1) ks
      show P.2.a 10 k = U.2.a 5 k ∧ P.2.a 11 k + 1 = U.2.a 6 k ∧ P.2.a 12 k + 1 = U.2.a 7 k
      rw [m2 10 (by decide), m2 11 (by decide), m2 12 (by decide), fa, b1, b2, b3]
      exact h.2.2.2.1 k hk
    · show ¬ P.2.i 8 = 0
      rw [m1 8 (by decide), f8]
      decide
    · have b4 : U.2.i 79 = 1 := congrArg (fun z => z.2.2.2) ks
      rw [b4]
      decide
theorem rd_167b {N : Nat} {s : RS} {U : Int32 × RS} (g : f_X12_read_167 N s = some U) : U.2.b = s.b := by
  unfold f_X12_read_167 f_X12_read_199 at g
  obtain ⟨-, g⟩ := hf_ite g
  have go : ∀ (X : RS) (v : Int32), X.b = s.b → (if X.i 15 = 0 then some (X.i 53, RS.setI (RS.setI X 79 0) 81 0) else some ((-10) - X.i 16, RS.setI (RS.setI X 79 0) 81 0)) = some U → U.2.b = s.b := fun X _ hX q => by
    by_cases c : X.i 15 = 0
    · rw [if_pos c] at q
      rw [← Option.some.inj q]
      exact hX
    · rw [if_neg c] at q
      rw [← Option.some.inj q]
      exact hX
  by_cases c : s.i 15 = 0
  · rw [if_pos c] at g
    exact go (RS.setI (RS.setI (RS.setI s 78 (s.i 75)) 76 (s.i 15)) 77 1) 0 rfl g
  · rw [if_neg c] at g
    exact go (RS.setI (RS.setI (RS.setI s 78 (s.i 75)) 76 (s.i 15)) 77 0) 0 rfl g
theorem rd_b9 {N : Nat} {r : RS} {U : Int32 × RS} (g : f_X12_read N r = some U) : U.2.b 9 = r.b 9 := by
  obtain ⟨Y, q, V, p7, rz, gq, gV, g7, g, -⟩ := rd_open g
  have k1 : pRw q = pRw Y := kr9_f_X12_next N Y q gq
  have k2 : pRw V = pRw (RS.setI q 63 (-1)) := kr9_f_X12_push N _ 1 V gV
  have k3 : pRw p7 = pRw V := kr9_f_X12_parse_10 N N V p7 g7
  have k4 : p7.b 9 = r.b 9 := ((k3.trans k2).trans k1).trans rz.1.2.2.2.2.2
  have fin : ∀ (w : Int32 × RS), pRw w.2 = pRw p7 → f_X12_read_138 N w.2 = some U → U.2.b 9 = r.b 9 := fun w hw gw => by
    have hw' : w.2.b 9 = r.b 9 := Eq.trans hw k4
    unfold f_X12_read_138 at gw
    by_cases c : w.2.i 15 = 0
    · rw [if_pos c] at gw
      by_cases d : w.2.i 18 < 0
      · rw [if_pos d] at gw
        exact (congrFun (rd_167b gw) 9).trans hw'
      · rw [if_neg d] at gw
        obtain ⟨v, gv, gw⟩ := hf_bind gw
        have k5 : pRw v = pRw (RS.setI w.2 2 0) := kr9_f_X12_fail N _ _ _ v gv
        exact (congrFun (rd_167b gw) 9).trans (Eq.trans k5 hw')
    · rw [if_neg c] at gw
      exact (congrFun (rd_167b gw) 9).trans hw'
  by_cases c : p7.i 10 = 0
  · rw [if_pos c] at g
    obtain ⟨w, gw, g⟩ := hf_bind g
    exact fin w (kr9_f_X12_can N _ _ w gw) g
  · rw [if_neg c] at g
    obtain ⟨w, gw, g⟩ := hf_bind g
    exact fin w (kr9_f_X12_can N _ _ w gw) g
theorem rd_167z {N : Nat} {s : RS} {U : Int32 × RS} (g : f_X12_read_167 N s = some U) : U.2.i 79 = 0 := by
  unfold f_X12_read_167 f_X12_read_199 at g
  obtain ⟨-, g⟩ := hf_ite g
  have go : ∀ X : RS, (if X.i 15 = 0 then some (X.i 53, RS.setI (RS.setI X 79 0) 81 0) else some ((-10) - X.i 16, RS.setI (RS.setI X 79 0) 81 0)) = some U → U.2.i 79 = 0 := fun X q => by
    by_cases c : X.i 15 = 0
    · rw [if_pos c] at q
      rw [← Option.some.inj q]
      rfl
    · rw [if_neg c] at q
      rw [← Option.some.inj q]
      rfl
  by_cases c : s.i 15 = 0
  · rw [if_pos c] at g
    exact go (RS.setI (RS.setI (RS.setI s 78 (s.i 75)) 76 (s.i 15)) 77 1) g
  · rw [if_neg c] at g
    exact go (RS.setI (RS.setI (RS.setI s 78 (s.i 75)) 76 (s.i 15)) 77 0) g
theorem rd_138s {N : Nat} {s : RS} {U : Int32 × RS} (g : f_X12_read_138 N s = some U) : (U.2.a 5 = s.a 5 ∧ U.2.a 6 = s.a 6 ∧ U.2.a 7 = s.a 7) ∧ U.2.i 79 = 0 := by
  have go : ∀ X : RS, f_X12_read_167 N X = some U → X.a 5 = s.a 5 ∧ X.a 6 = s.a 6 ∧ X.a 7 = s.a 7 → (U.2.a 5 = s.a 5 ∧ U.2.a 6 = s.a 6 ∧ U.2.a 7 = s.a 7) ∧ U.2.i 79 = 0 := fun X q hX => by
    have a := (rd_167a q).1
    rw [a]
    exact ⟨hX, rd_167z q⟩
  unfold f_X12_read_138 at g
  by_cases c : s.i 15 = 0
  · rw [if_pos c] at g
    by_cases d : s.i 18 < 0
    · rw [if_pos d] at g
      exact go _ g ⟨rfl, rfl, rfl⟩
    · rw [if_neg d] at g
      obtain ⟨v, gv, g⟩ := hf_bind g
      have k5 : pRs v = pRs (RS.setI s 2 0) := krs6_f_X12_fail N _ _ _ v gv
      exact go v g ⟨congrArg (fun z => z.1) k5, congrArg (fun z => z.2.1) k5, congrArg (fun z => z.2.2.1) k5⟩
  · rw [if_neg c] at g
    exact go _ g ⟨rfl, rfl, rfl⟩
/-- the reference's read: what was told of resources stays, no run any more -/
theorem rd_rs {N : Nat} {r : RS} {U : Int32 × RS} (g : f_X12_read N r = some U) : (U.2.a 5 = r.a 5 ∧ U.2.a 6 = r.a 6 ∧ U.2.a 7 = r.a 7) ∧ U.2.i 79 = 0 := by
  unfold f_X12_read at g
  obtain ⟨A, hA⟩ : ∃ A, A = RS.setI (RS.setI (RS.setI (RS.setI (RS.setI (RS.setI (RS.setI (RS.setI (RS.setI r 0 0) 38 0) 42 0) 43 0) 19 0) 53 0) 54 0) 55 0) 20 0 := ⟨_, rfl⟩
  have kA : KSs6 r A := by rw [hA]; exact rfl
  rw [← hA] at g
  clear hA
  obtain ⟨B, hB⟩ : ∃ B, B = RS.setI (RS.setI (RS.setI (RS.setI (RS.setI (RS.setI (RS.setI (RS.setI (RS.setI (RS.setI A 24 0) 29 0) 33 0) 56 0) 59 0) 52 0) 12 0) 15 0) 18 (-1)) 17 0 := ⟨_, rfl⟩
  have kB : KSs6 A B := by rw [hB]; exact rfl
  rw [← hB] at g
  clear hB
  obtain ⟨p1, g1, g⟩ := hf_bind g
  obtain ⟨p3, g3, g⟩ := hf_bind g
  obtain ⟨p5, g5, g⟩ := hf_bind g
  obtain ⟨p7, g7, g⟩ := hf_bind g
  unfold f_X12_parse at g7
  obtain ⟨V, gV, g7⟩ := hf_bind g7
  have kq : KSs6 p5 (RS.setI p5 63 (-1)) := rfl
  have k7 : KSs6 r p7 := ((((((kA.tr kB).tr (krs6_f_X12_see N _ _ _ p1 g1)).tr (krs6_f_X12_see N _ _ _ p3 g3)).tr (krs6_f_X12_next N _ p5 g5)).tr kq).tr (krs6_f_X12_push N _ _ V gV)).tr (krs6_f_X12_parse_10 N _ _ p7 g7)
  have fin : ∀ (p : Int32 × RS), KSs6 p7 p.2 → f_X12_read_138 N p.2 = some U → (U.2.a 5 = r.a 5 ∧ U.2.a 6 = r.a 6 ∧ U.2.a 7 = r.a 7) ∧ U.2.i 79 = 0 := fun p kp gp => by
    obtain ⟨⟨b1, b2, b3⟩, b4⟩ := rd_138s gp
    have k8 : pRs p.2 = pRs r := k7.tr kp
    exact ⟨⟨b1.trans (congrArg (fun z => z.1) k8), b2.trans (congrArg (fun z => z.2.1) k8), b3.trans (congrArg (fun z => z.2.2.1) k8)⟩, b4⟩
  by_cases c : p7.i 10 = 0
  · rw [if_pos c] at g
    obtain ⟨p, g9, g⟩ := hf_bind g
    exact fin p (krs6_f_X12_can N _ _ p g9) g
  · rw [if_neg c] at g
    obtain ⟨p, g9, g⟩ := hf_bind g
    exact fin p (krs6_f_X12_can N _ _ p g9) g
/-- the class's read: what was told of resources stays, no run any more -/
theorem rd_sc {N : Nat} {s : CS} {T : Int32 × CS} (e : f_X11_read N (fEE N 23).1 (fEE N 23).2 s = some T) : (T.2.a 10 = s.a 10 ∧ T.2.a 11 = s.a 11 ∧ T.2.a 12 = s.a 12) ∧ T.2.i 8 = 0 := by
  unfold f_X11_read at e
  obtain ⟨p1, e1, e⟩ := hf_bind e
  have k1 : pSc p1.2 = pSc (CS.setI (CS.setI s 5 0) 8 0) := kS_X7_translate N _ _ (kSEE N 23).1 (kSEE N 23).2 _ _ p1 e1
  have k2 : pSc p1.2 = (s.a 10, s.a 11, s.a 12, 0) := k1
  have a1 : p1.2.a 10 = s.a 10 := congrArg (fun z => z.1) k2
  have a2 : p1.2.a 11 = s.a 11 := congrArg (fun z => z.2.1) k2
  have a3 : p1.2.a 12 = s.a 12 := congrArg (fun z => z.2.2.1) k2
  have a4 : p1.2.i 8 = 0 := congrArg (fun z => z.2.2.2) k2
  have go : ∀ X : CS, f_X11_read_43 N (fEE N 23).1 (fEE N 23).2 X = some T → X.a = p1.2.a → X.i 8 = p1.2.i 8 → (T.2.a 10 = s.a 10 ∧ T.2.a 11 = s.a 11 ∧ T.2.a 12 = s.a 12) ∧ T.2.i 8 = 0 := fun X q xa x8 => by
    unfold f_X11_read_43 at q
    by_cases c : X.i 7 = 0
    · rw [if_pos c] at q
      rw [← Option.some.inj q]
      exact ⟨⟨by rw [xa]; exact a1, by rw [xa]; exact a2, by rw [xa]; exact a3⟩, x8.trans a4⟩
    · rw [if_neg c] at q
      rw [← Option.some.inj q]
      exact ⟨⟨by rw [xa]; exact a1, by rw [xa]; exact a2, by rw [xa]; exact a3⟩, x8.trans a4⟩
  have n6 : ∀ v w : Int32, (CS.setI (CS.setI p1.2 6 v) 7 w).i 8 = p1.2.i 8 := fun v w => by
    rw [ci_ne _ _ _ (by decide), ci_ne _ _ _ (by decide)]
  by_cases c : p1.1 = 0
  · rw [if_pos c] at e
    exact go _ e rfl (n6 _ _)
  · rw [if_neg c] at e
    exact go _ e rfl (n6 _ _)
theorem u_read {N : Nat} (hN : 40000 ≤ N) {h0 : Nat} {s : CS} {r : RS} {T : Int32 × CS} {U : Int32 × RS} (hc : CIV h0 s) (hr : RI r) (h : TLP s r) (e : f_X11_read N (fEE N 23).1 (fEE N 23).2 s = some T) (g : f_X12_read N r = some U) : TLP T.2 U.2 := by
  have rd := rd_both (Nat.le_trans (by decide) hN) hc hr.1 h.1 e g
  obtain ⟨⟨s1, s2, s3⟩, s4⟩ := rd_sc e
  obtain ⟨⟨q1, q2, q3⟩, q4⟩ := rd_rs g
  refine ⟨⟨t_read h.1.1 e g, fun k hk => ?_, fun k hk => ?_, fun k hk => ?_⟩, rd.1, fun z => ?_, fun k hk => ?_, Or.inl ⟨s4, q4⟩⟩
  · rw [(kz_read g).2.2.2, z_t0] at hk
    omega
  · exact (congrFun (kW_X11_read N _ _ (kWEE N 23).1 (kWEE N 23).2 s T e) k).trans (h.1.2.2.1 k hk)
  · exact (congrFun (rd_b9 g) k).trans (h.1.2.2.2 k hk)
  · have nz : ¬ T.2.i 7 = 0 := by
      rcases rd.1 with ⟨-, y⟩ | ⟨⟨y, -⟩, -⟩
      · exact absurd y z
      · exact y
    obtain ⟨s0, r0, cd, ⟨ta, ti⟩, ua, ui⟩ := rd.2 nz (ok_at (rd_slt hN hr) g z)
    refine cd.cg ⟨⟨by rw [ta], by rw [ta], by rw [ta]⟩, fun k _ _ => by rw [ua], ?_, ui 18 (by decide) (by omega), ui 20 (by decide) (by omega)⟩ (ti 23 (by decide) (by decide))
    rw [ui 3 (by decide) (by omega)]
    exact Int.le_refl _
  · rw [s1, s2, s3, q1, q2, q3]
    exact h.2.2.2.1 k hk
theorem fd_refa {N : Nat} {x1 x2 x3 x4 x5 : Int32} : ∀ (n : Nat) (r : RS) (k : Int32) (U : Int32 × RS), f_X12_feed_24 N n r x1 x2 x3 x4 x5 k = some U → pRq U.2 = pRq r ∧ pRs U.2 = pRs r ∧ pRn U.2 = pRn r ∧ U.2.i 3 = r.i 3
  | 0, _, _, _, g => by cases g
  | n + 1, r, k, U, g => by
    have g' : b_X12_feed_24 N (f_X12_feed_24 N n) r x1 x2 x3 x4 x5 k = some U := g
    unfold b_X12_feed_24 at g'
    have go : ∀ (j : Nat) (v w : Int32), f_X12_feed_24 N n (RS.setA r 1 j v) x1 x2 x3 x4 x5 w = some U → pRq U.2 = pRq r ∧ pRs U.2 = pRs r ∧ pRn U.2 = pRn r ∧ U.2.i 3 = r.i 3 := fun j v w q => by
      obtain ⟨a1, a2, a3, a4⟩ := fd_refa n _ w U q
      have b1 : pRq (RS.setA r 1 j v) = pRq r := rfl
      have b2 : pRs (RS.setA r 1 j v) = pRs r := rfl
      have b3 : pRn (RS.setA r 1 j v) = pRn r := rfl
      exact ⟨a1.trans b1, a2.trans b2, a3.trans b3, a4⟩
    by_cases c : (20 : Int32) ≤ k
    · rw [if_pos c] at g'
      rw [← Option.some.inj g']
      exact ⟨rfl, rfl, rfl, rfl⟩
    rw [if_neg c] at g'
    by_cases c4 : (4 : Int32) ≤ k
    · rw [if_pos c4] at g'
      by_cases c8 : (8 : Int32) ≤ k
      · rw [if_pos c8] at g'
        by_cases c12 : (12 : Int32) ≤ k
        · rw [if_pos c12] at g'
          by_cases c16 : (16 : Int32) ≤ k
          · rw [if_pos c16] at g'
            exact go _ _ _ (hf_ite g').2
          · rw [if_neg c16] at g'
            exact go _ _ _ (hf_ite g').2
        · rw [if_neg c12] at g'
          exact go _ _ _ (hf_ite g').2
      · rw [if_neg c8] at g'
        exact go _ _ _ (hf_ite g').2
    · rw [if_neg c4] at g'
      exact go _ _ _ (hf_ite g').2
theorem u_feed {N : Nat} (hN : 1000 ≤ N) {h0 : Nat} {s : CS} {r : RS} {T : Int32 × CS} {U : Int32 × RS} (hc : CIV h0 s) (h : TLP s r) (x1 x2 x3 x4 x5 : Int32) (e : f_X11_feed N s x1 x2 x3 x4 x5 = some T) (g : f_X12_feed N r x1 x2 x3 x4 x5 = some U) : TLP T.2 U.2 ∧ T.1 = U.1 := by
  have t := t_feed hN hc h.1.1 x1 x2 x3 x4 x5 e g
  refine ⟨?_, t.2⟩
  have kw := kW_X11_feed N s x1 x2 x3 x4 x5 T e
  have h5 := hc.2.2.2.2.2.1
  have e20 : (20 : Int32).toInt = 20 := by decide
  have e9 : (900 : Int32).toInt = 900 := by decide
  have e5 : (s.i 5 + 20).toInt = (s.i 5).toInt + 20 := by rw [toInt_add] <;> rw [e20] <;> omega
  have s5 := h.1.1.1
  by_cases c : s.i 5 + 20 ≤ 900
  · have l := le_int c
    rw [e5, e9] at l
    obtain ⟨p, hp⟩ : ∃ p : Nat, (s.i 5).toInt = (p : Int) := ⟨(s.i 5).toInt.toNat, by omega⟩
    obtain ⟨c1, c2⟩ := fd_cls hp (by omega) e
    unfold f_X12_feed at g
    rw [if_pos (show r.i 2 + 20 ≤ 900 by rw [← s5]; exact c)] at g
    have hp2 : ((RS.setI r 0 0).i 2).toInt = (p : Int) := by
      show (r.i 2).toInt = _
      rw [← s5]
      exact hp
    obtain ⟨d1, d2, d3⟩ := fd_ref (p := p) (by omega) N 0 (RS.setI r 0 0) U (by omega) hp2 g
    obtain ⟨w1, w2, w3, w4⟩ := fd_refa N (RS.setI r 0 0) 0 U g
    have u2 : (U.2.i 2).toInt = (p : Int) + 20 := by
      have z := t.1.1
      rw [← z]
      have w := (ok_at (y_feed hN hc x1 x2 x3 x4 x5) e).1 c
      rw [w.2, e5, hp]
    have kn := kN_X11_feed N s x1 x2 x3 x4 x5 T e
    have ks := kS_X11_feed N s x1 x2 x3 x4 x5 T e
    obtain ⟨⟨-, h2, h3, h4⟩, hP, hC, hS1, hA1⟩ := h
    have v1 : pRq U.2 = pRq r := w1
    have v2 : pRs U.2 = pRs r := w2
    have v3 : pRn U.2 = pRn r := w3
    have d77 : U.2.i 77 = r.i 77 := (d1 77 (by decide)).trans (ri_ne (by decide))
    refine ⟨⟨t.1, fun k hk => ?_, fun k hk => ?_, fun k hk => ?_⟩, ?_, fun z => (hC (fun w => z (d77.trans w))).cg ⟨⟨congrArg (fun z => z.1) kn, congrArg (fun z => z.2.1) kn, congrArg (fun z => z.2.2.1) kn⟩, rq_a v1, i3_le w4, congrArg (fun z => z.1) v1, congrArg (fun z => z.2.1) v1⟩ (congrArg (fun z => z.2.2.2.1) kn), hS1.of ks v2, hA1.of kn v3⟩
    · rw [c2 k, d3 k]
      by_cases w : p ≤ k ∧ k < p + 20
      · rw [if_pos w, if_pos (by omega)]
        exact b_eq _ _ (by omega)
      · rw [if_neg w, if_neg (by omega)]
        refine h2 k ?_
        rw [← s5, hp]
        omega
    · exact (congrFun kw k).trans (h3 k hk)
    · rw [d2]
      exact h4 k hk
    · have ri : ∀ j : Nat, j ≠ 0 → j ≠ 2 → U.2.i j = r.i j := fun j a1 a2 => (d1 j a2).trans (ri_ne a1)
      unfold PRG at *
      rw [c1 7 (by decide), c1 24 (by decide), c1 25 (by decide), c1 26 (by decide), c1 27 (by decide), ri 53 (by decide) (by decide), ri 54 (by decide) (by decide), ri 55 (by decide) (by decide), ri 77 (by decide) (by decide), ri 78 (by decide) (by decide)]
      exact hP
  · unfold f_X11_feed at e
    rw [if_neg c] at e
    unfold f_X12_feed at g
    rw [if_neg (show ¬ r.i 2 + 20 ≤ 900 by rw [← s5]; exact c)] at g
    refine h.of t.1 ?_ kw ?_ ?_ ?_ ?_ ?_ ?_ (h.2.2.2.1.of ?_ ?_) (h.2.2.2.2.of ?_ ?_)
    · rw [← Option.some.inj e]
    · rw [← Option.some.inj g]
      rfl
    · rw [← Option.some.inj g]
      rfl
    · rw [← Option.some.inj g]
      exact Int.le_refl _
    · rw [← Option.some.inj e]
    · rw [← Option.some.inj g]
      rfl
    · rw [← Option.some.inj g]
      exact Int.le_refl _
    · rw [← Option.some.inj e]
    · rw [← Option.some.inj g]
      rfl
    · rw [← Option.some.inj e]
    · rw [← Option.some.inj g]
      rfl
/-- what program answers -/
theorem u_program {N : Nat} {s : CS} {r : RS} {T : Int32 × CS} {U : Int32 × RS} (h : TLP s r) (x1 : Int32) (e : f_X11_program N s x1 = some T) (g : f_X12_program N r x1 = some U) : TLP T.2 U.2 ∧ T.1 = U.1 := by
  refine ⟨h.of (t_program h.1.1 x1 e g) (kC_X11_program N s x1 T e) (kW_X11_program N s x1 T e) (kr7_f_X12_program N r x1 U g) (kr9_f_X12_program N r x1 U g) (i2_le (kr_f_X12_program N r x1 U g).2.2.2) (ql_nl (kN_X11_program N s x1 T e)) (krc5_f_X12_program N r x1 U g) (i3_le (kr_f_X12_program N r x1 U g).1) (h.2.2.2.1.of (kS_X11_program N s x1 T e) (krs6_f_X12_program N r x1 U g)) (h.2.2.2.2.of (kN_X11_program N s x1 T e) (krn6_f_X12_program N r x1 U g)), ?_⟩
  obtain ⟨-, hp, -⟩ := h
  unfold f_X11_program f_X11_program_9 at e
  unfold f_X12_program at g
  by_cases c : 0 ≤ x1 ∧ x1 ≤ 3
  · rw [if_neg (Int32.not_lt.mpr c.1), if_pos c.2] at e
    rw [e_in1 c, ob_some] at g
    have g' : (if r.i 77 = 0 then some ((-3 : Int32), RS.setI r 0 0) else (if x1 = 0 then some (r.i 53, RS.setI r 0 0) else (if x1 = 1 then (if r.i 78 = 0 then some (0, RS.setI r 0 0) else some (1, RS.setI r 0 0)) else (if x1 = 2 then some (r.i 54, RS.setI r 0 0) else some (r.i 55, RS.setI r 0 0))))) = some U := (if_neg n10).symm.trans g
    rcases hp with ⟨z1, z2⟩ | ⟨⟨z1, z2⟩, q1, q2, q3, q4⟩
    · rw [if_pos z1] at e
      rw [if_pos z2] at g'
      rw [← Option.some.inj e, ← Option.some.inj g']
    · rw [if_neg z1] at e
      rw [if_neg z2] at g'
      by_cases x0 : x1 = 0
      · rw [if_pos x0] at e g'
        rw [← Option.some.inj e, ← Option.some.inj g']
        exact q1
      · rw [if_neg x0] at e g'
        by_cases x1' : x1 = 1
        · rw [if_pos x1'] at e g'
          by_cases y : s.i 27 = 0
          · rw [if_pos y] at e
            rw [if_pos (q4.mp y)] at g'
            rw [← Option.some.inj e, ← Option.some.inj g']
          · rw [if_neg y] at e
            rw [if_neg (fun w => y (q4.mpr w))] at g'
            rw [← Option.some.inj e, ← Option.some.inj g']
        · rw [if_neg x1'] at e g'
          by_cases x2 : x1 = 2
          · rw [if_pos x2] at e g'
            rw [← Option.some.inj e, ← Option.some.inj g']
            exact q2
          · rw [if_neg x2] at e g'
            rw [← Option.some.inj e, ← Option.some.inj g']
            exact q3
  · rw [e_in0 c, ob_some] at g
    have g' : some ((-1 : Int32), RS.setI r 0 0) = some U := (if_pos rfl).symm.trans g
    have e' : some ((-1 : Int32), s) = some T := by
      by_cases d : x1 < 0
      · rw [if_pos d] at e
        exact e
      · rw [if_neg d, if_neg (fun q => c ⟨Int32.not_lt.mp d, q⟩)] at e
        exact e
    rw [← Option.some.inj e', ← Option.some.inj g']
theorem u_under {N : Nat} (hN : 1000 ≤ N) {s : CS} {r : RS} {T : Int32 × CS} {U : Int32 × RS} (hr : RB r) (h : TLP s r) (x1 x2 : Int32) (e : f_X11_under N s x1 x2 = some T) (g : f_X12_under N r x1 x2 = some U) : TLP T.2 U.2 ∧ T.1 = U.1 :=
  ⟨h.of (t_under hN hr h.1.1 x1 x2 e g).1 (kC_X11_under N s x1 x2 T e) (kW_X11_under N s x1 x2 T e) (kr7_f_X12_under N r x1 x2 U g) (kr9_f_X12_under N r x1 x2 U g) (i2_le (kr_f_X12_under N r x1 x2 U g).2.2.2) (ql_nl (kN_X11_under N s x1 x2 T e)) (krc5_f_X12_under N r x1 x2 U g) (i3_le (kr_f_X12_under N r x1 x2 U g).1) (h.2.2.2.1.of (kS_X11_under N s x1 x2 T e) (krs6_f_X12_under N r x1 x2 U g)) (h.2.2.2.2.of (kN_X11_under N s x1 x2 T e) (krn6_f_X12_under N r x1 x2 U g)), (t_under hN hr h.1.1 x1 x2 e g).2⟩
theorem u_rounds {N : Nat} {s : CS} {r : RS} {U : Int32 × RS} (h : TLP s r) (x1 x2 : Int32) (g : f_X12_rounds N r x1 x2 = some U) : TLP s U.2 :=
  h.of (h.1.1.of rfl rfl rfl rfl (kr_f_X12_rounds N r x1 x2 U g)) rfl rfl (kr7_f_X12_rounds N r x1 x2 U g) (kr9_f_X12_rounds N r x1 x2 U g) (i2_le (kr_f_X12_rounds N r x1 x2 U g).2.2.2) rfl (krc5_f_X12_rounds N r x1 x2 U g) (i3_le (kr_f_X12_rounds N r x1 x2 U g).1) (h.2.2.2.1.of rfl (krs6_f_X12_rounds N r x1 x2 U g)) (h.2.2.2.2.of rfl (krn6_f_X12_rounds N r x1 x2 U g))
