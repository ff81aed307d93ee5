/-! both machines: a finally begins -/
theorem cfi_f {s : CS} {f : Nat} {t : Int32} : (∀ j : Nat, j ≠ 65 → j ≠ 66 → j ≠ 73 → (cBg (cFi s f) f t).i j = s.i j) ∧ ((cBg (cFi s f) f t).i 65 = s.o f 2 ∧ (cBg (cFi s f) f t).i 66 = cTg s t ∧ (cBg (cFi s f) f t).i 73 = 0) ∧ ((cBg (cFi s f) f t).a = s.a ∧ (cBg (cFi s f) f t).r = s.r ∧ (cBg (cFi s f) f t).oa = s.oa) ∧ (∀ g : Nat, g ≠ f → (cBg (cFi s f) f t).o g = s.o g ∧ (cBg (cFi s f) f t).ot g = s.ot g) ∧ ((cBg (cFi s f) f t).o f 0 = 3 ∧ (cBg (cFi s f) f t).o f 2 = s.o f 2 ∧ (cBg (cFi s f) f t).o f 5 = s.i 73 ∧ (cBg (cFi s f) f t).o f 6 = s.i 74 ∧ (cBg (cFi s f) f t).o f 7 = s.i 75 ∧ (cBg (cFi s f) f t).ot f = s.w) ∧ (cFi s f).o f 1 = s.o f 1 := by
  obtain ⟨Y, hY⟩ : ∃ Y, Y = cFi s f := ⟨_, rfl⟩
  have yi : Y.i = s.i := by
    rw [hY]
    unfold cFi
    rw [ci_setO, ci_setO, ci_setO, ci_setOt, ci_setO]
  have ya : Y.a = s.a := by
    rw [hY]
    unfold cFi
    rw [ca_setO, ca_setO, ca_setO, ca_setOt, ca_setO]
  have yr : Y.r = s.r := by
    rw [hY]
    unfold cFi
    rw [cr_setO, cr_setO, cr_setO, cr_setOt, cr_setO]
  have yoa : Y.oa = s.oa := by
    rw [hY]
    unfold cFi
    rw [coa_setO, coa_setO, coa_setO, coa_setOt, coa_setO]
  have yo : ∀ g : Nat, g ≠ f → Y.o g = s.o g := fun g hg => by
    rw [hY]
    unfold cFi
    rw [setO_ne hg, setO_ne hg, setO_ne hg, co_setOt, setO_ne hg]
  have yt : ∀ g : Nat, g ≠ f → Y.ot g = s.ot g := fun g hg => by
    rw [hY]
    unfold cFi
    rw [cot_setO, cot_setO, cot_setO, cot_ne _ _ _ hg, cot_setO]
  have ytf : Y.ot f = s.w := by
    rw [hY]
    unfold cFi
    rw [cot_setO, cot_setO, cot_setO, cot_at]
  have y0 : Y.o f 0 = 3 := by
    rw [hY]
    unfold cFi
    rw [setO_k (by decide), setO_k (by decide), setO_k (by decide), co_setOt, setO_at]
  have yk : ∀ j : Nat, j ≠ 0 → j ≠ 5 → j ≠ 6 → j ≠ 7 → Y.o f j = s.o f j := fun j a b c d => by
    rw [hY]
    unfold cFi
    rw [setO_k d, setO_k c, setO_k b, co_setOt, setO_k a]
  have y5 : Y.o f 5 = s.i 73 := by
    rw [hY]
    unfold cFi
    rw [setO_k (by decide), setO_k (by decide), setO_at]
  have y6 : Y.o f 6 = s.i 74 := by
    rw [hY]
    unfold cFi
    rw [setO_k (by decide), setO_at]
  have y7 : Y.o f 7 = s.i 75 := by
    rw [hY]
    unfold cFi
    rw [setO_at]
  rw [← hY]
  clear hY
  unfold cBg
  refine ⟨fun j h1 h2 h3 => by rw [ci_ne _ _ _ h3, ci_ne _ _ _ h2, ci_ne _ _ _ h1, yi], ⟨?_, ?_, ?_⟩, ⟨?_, ?_, ?_⟩, fun g hg => ⟨?_, ?_⟩, ⟨?_, ?_, ?_, ?_, ?_, ?_⟩, yk 1 (by decide) (by decide) (by decide) (by decide)⟩
  · rw [ci_ne _ _ _ (by decide), ci_ne _ _ _ (by decide), ci_at]
    exact yk 2 (by decide) (by decide) (by decide) (by decide)
  · rw [ci_ne _ _ _ (by decide), ci_at, ya]
    rfl
  · rw [ci_at]
  · rw [ca_setI, ca_setI, ca_setI, ya]
  · rw [cr_setI, cr_setI, cr_setI, yr]
  · rw [coa_setI, coa_setI, coa_setI, yoa]
  · rw [co_setI, co_setI, co_setI, yo g hg]
  · rw [cot_setI, cot_setI, cot_setI, yt g hg]
  · rw [co_setI, co_setI, co_setI, y0]
  · rw [co_setI, co_setI, co_setI]
    exact yk 2 (by decide) (by decide) (by decide) (by decide)
  · rw [co_setI, co_setI, co_setI, y5]
  · rw [co_setI, co_setI, co_setI, y6]
  · rw [co_setI, co_setI, co_setI, y7]
  · rw [cot_setI, cot_setI, cot_setI, ytf]
/-- the reference's finally -/
theorem fi_r {N k y0 : Nat} {r : RS} {y : Int32} {P : Int32 × RS} (hy : y.toInt = (k : Int)) (h1 : (r.a 101 k).toInt = (y0 : Int)) (g : f_X12_finals N r y = some P) : ((r.a 31 y0).toInt < 0 ∧ P = (0, r)) ∨ (0 ≤ (r.a 31 y0).toInt ∧ P.1 = 1 ∧ (∀ j : Nat, j ≠ 92 → j ≠ 93 → P.2.i j = r.i j) ∧ (P.2.i 92 = r.a 31 y0 ∧ P.2.i 93 = r.a 104 k) ∧ (∀ j : Nat, j ≠ 102 → j ≠ 105 → j ≠ 106 → j ≠ 107 → j ≠ 108 → j ≠ 109 → P.2.a j = r.a j) ∧ (∀ j i : Nat, i ≠ k → P.2.a j i = r.a j i) ∧ (P.2.a 102 k = 2 ∧ P.2.a 105 k = r.i 110 ∧ P.2.a 106 k = r.i 111 ∧ P.2.a 107 k = r.i 112 ∧ P.2.a 108 k = r.i 113 ∧ P.2.a 109 k = r.i 114)) := by
  unfold f_X12_finals at g
  rw [cl_nat hy, cl_nat h1] at g
  have g1 := (hf_ite (hf_ite g).2).2
  by_cases c : 0 ≤ r.a 31 y0
  · rw [if_pos c] at g1
    have lc := le_int c
    rw [z_t0] at lc
    right
    obtain ⟨Y, hY⟩ : ∃ Y, Y = RS.setA (RS.setA (RS.setA (RS.setA (RS.setA (RS.setA r 105 k (r.i 110)) 106 k (r.i 111)) 107 k (r.i 112)) 108 k (r.i 113)) 109 k (r.i 114)) 102 k 2 := ⟨_, rfl⟩
    have eP : P = (1, RS.setI (RS.setI Y 93 (r.a 104 k)) 92 (r.a 31 y0)) := by
      rw [← Option.some.inj g1, hY]
    have yi : Y.i = r.i := by
      rw [hY]
      rfl
    have ya : ∀ j : Nat, j ≠ 102 → j ≠ 105 → j ≠ 106 → j ≠ 107 → j ≠ 108 → j ≠ 109 → Y.a j = r.a j := fun j a1 a2 a3 a4 a5 a6 => by
      rw [hY, setA_nk a1, setA_nk a6, setA_nk a5, setA_nk a4, setA_nk a3, setA_nk a2]
    have yn : ∀ j i : Nat, i ≠ k → Y.a j i = r.a j i := fun j i hi => by
      rw [hY, setA_ne hi, setA_ne hi, setA_ne hi, setA_ne hi, setA_ne hi, setA_ne hi]
    have y102 : Y.a 102 k = 2 := by rw [hY, setA_at]
    have y109 : Y.a 109 k = r.i 114 := by rw [hY, setA_nk (by decide), setA_at]
    have y108 : Y.a 108 k = r.i 113 := by rw [hY, setA_nk (by decide), setA_nk (by decide), setA_at]
    have y107 : Y.a 107 k = r.i 112 := by rw [hY, setA_nk (by decide), setA_nk (by decide), setA_nk (by decide), setA_at]
    have y106 : Y.a 106 k = r.i 111 := by rw [hY, setA_nk (by decide), setA_nk (by decide), setA_nk (by decide), setA_nk (by decide), setA_at]
    have y105 : Y.a 105 k = r.i 110 := by rw [hY, setA_nk (by decide), setA_nk (by decide), setA_nk (by decide), setA_nk (by decide), setA_nk (by decide), setA_at]
    rw [eP]
    clear eP hY
    refine ⟨lc, rfl, fun j a b => ?_, ⟨ri_at, ?_⟩, ya, yn, y102, y105, y106, y107, y108, y109⟩
    · show (RS.setI (RS.setI Y 93 (r.a 104 k)) 92 (r.a 31 y0)).i j = r.i j
      rw [ri_ne a, ri_ne b, yi]
    · show (RS.setI (RS.setI Y 93 (r.a 104 k)) 92 (r.a 31 y0)).i 93 = r.a 104 k
      rw [ri_ne (by decide), ri_at]
  · rw [if_neg c] at g1
    left
    have lc := lt_int (Int32.not_le.mp c)
    rw [z_t0] at lc
    exact ⟨lc, (Option.some.inj g1).symm⟩
/-- how it will go on behind the finally of this entry -/
def PNX (s : CS) (r : RS) (mu : Nat → Nat) (AL : Als) (e : Ent) (c : List Ent) : Prop := (s.i 73 = 1 ∧ r.i 110 = 0 ∧ ((s.i 75 - s.i 75 / 32 * 32).toInt = (frs c : Int) ∧ (s.i 75 / 32).toInt = (e.x : Int) + 2) ∧ (FCP r AL e.y → ∃ p q w : Nat, (cTg s (s.i 75 / 32)).toInt = (p : Int) ∧ (r.a 32 e.y).toInt = (q : Int) ∧ AL p q e.h w 0 c ∧ w ≤ e.u)) ∨ (FCP r AL e.y → WYS s r mu AL c e.h e.u (s.i 73) (s.i 74) (s.i 75) s.w (r.i 110) (r.i 111) (r.i 112) (r.i 113) (r.i 114))
/-- the entry on top, in its catches or behind them -/
def TOPW (s : CS) (r : RS) (e : Ent) (c : List Ent) (f : Nat) : Prop := ((s.i 67).toInt = (frs c : Int) + 1 ∧ frs c ≤ 21) ∧ (s.r 61 (frs c) = some f ∧ s.o f 0 = 2 ∧ (s.o f 1).toInt = (e.x : Int) ∧ (s.o f 2).toInt = (e.h : Int)) ∧ (r.i 99).toInt = (c.length : Int) + 1 ∧ (r.a 100 c.length = 4 ∧ (r.a 101 c.length).toInt = (e.y : Int) ∧ (r.a 104 c.length).toInt = (e.h : Int))
/-- all else, below it -/
def BLW (nm : Nat → Nat → Prop) (s : CS) (r : RS) (mu : Nat → Nat) (AL : Als) (h : Nat) (c : List Ent) (n : Int) : Prop := s.i 72 = -1 ∧ (MVH s r h ∧ MTR s r ∧ ∀ k l : Nat, nm k l → s.a 59 k = r.a 84 l) ∧ FRS s r mu AL c (r.i 97).toInt ∧ OPW s r c ∧ s.i 71 = hS r 8 ∧ (0 ≤ (r.i 85).toInt ∧ (r.i 85).toInt + tps c ≤ 2 * (r.i 80).toInt + n) ∧ MUI r mu ∧ r.i 115 = 0 ∧ TLR s r
theorem fin_in {N H : Nat} (hN : 10000000000 ≤ N) {D : Nat → List Nat} {T : Int32 × CS} {s0 s : CS} {nm : Nat → Nat → Prop} {AL : Als} {mu : Nat → Nat} {h f p q w : Nat} {e : Ent} {c : List Ent} {r : RS} {x y : Int32} {P : Int32 × RS} (cr : CRN N H D T s0 s x) (hx : x.toInt < 4000000) (h73 : ¬ s.i 73 = 0) (lt : LTG s) (tp : TOPW s r e c f) (bl : BLW nm s r mu AL h c 0) (eh : e.h ≤ h) (e31 : (r.a 31 e.y).toInt = (q : Int)) (ec : (cTg s (s.o f 1 + 1)).toInt = (p : Int)) (al : AL p q e.h w 0 ((3, e.h, e.x, e.y, 0, 0, e.u) :: c)) (pn : PNX s r mu AL e c) (hy : y.toInt = (c.length : Int)) (g : f_X12_finals N r y = some P) : ¬ P.1 = 0 ∧ ∃ S : CS, CRN N H D T s0 S (x + 1) ∧ SYN nm S P.2 mu AL e.h p q ((3, e.h, e.x, e.y, 0, 0, e.u) :: c) 0 ∧ P.2.i 80 = r.i 80 := by
  obtain ⟨⟨t1, t2⟩, ⟨t3, t4, t5, t6⟩, t7, t8, t9, t10⟩ := tp
  obtain ⟨b1, ⟨b2, b3, b4⟩, b5, b6, b7, ⟨b8, b9⟩, b10, b11, b12⟩ := bl
  obtain ⟨S, e1, e2, e3⟩ := cr.lv hN b1 h73 hx
  have hr : REFS s := cr.1.1
  have eS := lo_f t1 (by omega) t3 lt t4 (by omega) e1
  obtain ⟨c1, ⟨c2, c3, c4⟩, ⟨c5, c6, c7⟩, c8, ⟨c9, c10, c11, c12, c13, c14⟩, c15⟩ := cfi_f (s := s) (f := f) (t := (cFi s f).o f 1 + 1)
  rw [← eS] at c1 c2 c3 c4 c5 c6 c7 c8 c9 c10 c11 c12 c13 c14
  rw [c15] at c3
  clear eS c15
  rcases fi_r hy t9 g with ⟨z, -⟩ | ⟨z, p1, p2, ⟨p3, p4⟩, p5, p6, p7, p8, p9, p10, p11, p12⟩
  · omega
  obtain ⟨P1, V⟩ := P
  have fk : oK s f 1 := hr.2.2.2.1 (frs c) f (by omega) t3
  have tlv : ∀ b : Nat, TLV s r mu b → TLV S V mu b := fun b t => by
    obtain ⟨j, j1, j2⟩ := t.2.2.1
    have kb := (hr.2.2.2.2.2.1 j b j1 j2).1.2
    have nb : b ≠ f := fun q => by
      rw [q, fk.2] at kb
      exact absurd kb (by decide)
    have p85 : V.i 85 = r.i 85 := p2 85 (by decide) (by decide)
    refine TLV.of (c8 b nb).1 (by rw [c7]) (by rw [c7]) (fun q => ?_) (by rw [p85]; exact Int.le_refl _) ?_ ?_ ?_ (fun i _ => ?_) (fun i _ => ?_) (p2 3 (by decide) (by decide)) t
    · unfold inP at *
      rw [c6]
      exact q
    all_goals exact congrFun (p5 _ (by decide) (by decide) (by decide) (by decide) (by decide) (by decide)) _
  have feq : FEQ s S r V mu mu c (r.i 97).toInt := by
    refine ⟨fun i g' hi hg => ?_, fun b _ t => ⟨tlv b t, rfl, congrFun (p5 87 (by decide) (by decide) (by decide) (by decide) (by decide) (by decide)) _⟩, ⟨by rw [c5], p5 21 (by decide) (by decide) (by decide) (by decide) (by decide) (by decide), p5 23 (by decide) (by decide) (by decide) (by decide) (by decide) (by decide), p5 31 (by decide) (by decide) (by decide) (by decide) (by decide) (by decide), p5 32 (by decide) (by decide) (by decide) (by decide) (by decide) (by decide)⟩, fun j k _ _ hk => p6 j k (by omega), fun a _ => ⟨fun k _ => by rw [c5], fun l _ => congrFun (p5 84 (by decide) (by decide) (by decide) (by decide) (by decide) (by decide)) _⟩, fun j _ => congrFun (p5 98 (by decide) (by decide) (by decide) (by decide) (by decide) (by decide)) _⟩
    have ng : g' ≠ f := fun q => by
      rw [q] at hg
      have := hr.2.2.2.2.1 i (frs c) f (by omega) (by omega) hg t3
      omega
    exact ⟨by rw [c6]; exact hg, c8 g' ng⟩
  have rfx : RFX r V := ⟨fun j hj => p2 j (by omega) (by omega), fun k hk => p5 k (by omega) (by omega) (by omega) (by omega) (by omega) (by omega)⟩
  have i85 : V.i 85 = r.i 85 := p2 85 (by decide) (by decide)
  have i80 : V.i 80 = r.i 80 := p2 80 (by decide) (by decide)
  have i95 : V.i 95 = r.i 95 := p2 95 (by decide) (by decide)
  refine ⟨by rw [p1]; exact n10, S, e3, ⟨⟨⟨⟨(c1 72 (by decide) (by decide) (by decide)).trans b1, c4⟩, by rw [c3]; exact ec, by rw [p3]; exact e31⟩, ⟨⟨by rw [c2]; exact t6, by rw [p4]; exact t10, by have := b2.1.2; omega⟩, fun k hk => ?_⟩, b3.of (c1 69 (by decide) (by decide) (by decide)) (c1 70 (by decide) (by decide) (by decide)) (by rw [c5]) i80 (p2 81 (by decide) (by decide)) (p5 82 (by decide) (by decide) (by decide) (by decide) (by decide) (by decide)) (p5 83 (by decide) (by decide) (by decide) (by decide) (by decide) (by decide)), fun k l hk => ?_⟩, ⟨⟨?_, ⟨?_, ?_⟩, ?_, ⟨by rw [i85]; exact b8, ?_⟩, ?_, (p2 115 (by decide) (by decide)).trans b11⟩, ?_⟩, b12.of (fun j hj => c1 j (by omega) (by omega) (by omega)) (fun k _ => by rw [c5]) rfx⟩, i80⟩
  · rw [c5, p5 94 (by decide) (by decide) (by decide) (by decide) (by decide) (by decide)]
    exact b2.1.1 k (by omega)
  · rw [c5, p5 84 (by decide) (by decide) (by decide) (by decide) (by decide) (by decide)]
    exact b4 k l hk
  · refine ⟨?_, Or.inr (Or.inr (Or.inr (Or.inl ⟨rfl, ?_, ⟨?_, p7⟩, ⟨f, ⟨by rw [c6]; exact t3, c9, by rw [c10]; exact t6⟩, ?_⟩, ?_⟩)))⟩
    · rw [p5 104 (by decide) (by decide) (by decide) (by decide) (by decide) (by decide)]
      exact t10
    · rw [p5 100 (by decide) (by decide) (by decide) (by decide) (by decide) (by decide)]
      exact t8
    · rw [p5 101 (by decide) (by decide) (by decide) (by decide) (by decide) (by decide)]
      exact t9
    · unfold PNF
      rw [c11, c12, c13, c14, p8, p9, p10, p11, p12]
      rcases pn with pn | pn
      · left
        unfold FCP cTg at *
        rw [c5, p5 21 (by decide) (by decide) (by decide) (by decide) (by decide) (by decide), p5 32 (by decide) (by decide) (by decide) (by decide) (by decide) (by decide)]
        exact pn
      · right
        intro fc
        have fc' : FCP r AL e.y := by
          unfold FCP at *
          rw [p5 21 (by decide) (by decide) (by decide) (by decide) (by decide) (by decide)] at fc
          exact fc
        exact (pn fc').of (by rw [c5]) (p5 21 (by decide) (by decide) (by decide) (by decide) (by decide) (by decide)) (p5 31 (by decide) (by decide) (by decide) (by decide) (by decide) (by decide)) (p5 23 (by decide) (by decide) (by decide) (by decide) (by decide) (by decide)) (fun b _ t => ⟨tlv b t, rfl⟩)
    · rw [p2 97 (by decide) (by decide)]
      exact b5.of feq
  · rw [c1 67 (by decide) (by decide) (by decide), t1, frs_up (show Ent.k (3, e.h, e.x, e.y, 0, 0, e.u) ≤ 3 from Nat.le_refl 3)]
    omega
  · rw [p2 99 (by decide) (by decide), t7]
    show (c.length : Int) + 1 = ((c.length + 1 : Nat) : Int)
    omega
  · rw [c1 71 (by decide) (by decide) (by decide), hS_of (p5 91 (by decide) (by decide) (by decide) (by decide) (by decide) (by decide))]
    exact b7
  · rw [i85, i80]
    exact b9
  · unfold MUI at *
    rw [i85]
    exact b10
  · obtain ⟨o1, o2, o3, o4, o5, o6⟩ := b6
    refine ⟨by rw [c1 68 (by decide) (by decide) (by decide), i95]; exact o1, by rw [i95]; exact o2, by rw [i95]; exact o3, o4, fun k hk => ?_, by rw [i95]; exact ⟨fun z => absurd (show (3 : Nat) = 1 from z) (by decide), fun _ => o6.of (fun k _ => by rw [p5 103 (by decide) (by decide) (by decide) (by decide) (by decide) (by decide)])⟩⟩
    rw [i95] at hk
    rw [c5, p5 96 (by decide) (by decide) (by decide) (by decide) (by decide) (by decide)]
    exact o5 k hk
