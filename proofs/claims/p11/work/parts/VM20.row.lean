/-! both machines: the rows of a try -/
/-- the class's rows from there on, the reference's from that catch on -/
def HRW (s : CS) (r : RS) (AL : Als) (e : Ent) (c : List Ent) (W : Nat) : Nat → Nat → Int32 → Prop
  | 0, _, _ => False
  | n + 1, p, k => p < 1200 ∧ ((s.a 15 p = 58 ∧ k.toInt < 0)
    ∨ (s.a 15 p = 56 ∧ ∃ j pb qb z l w : Nat, k.toInt = (j : Int) ∧ s.a 16 p - s.a 16 p / 16 * 16 = r.a 34 j ∧ ((cTg s (s.a 16 p / 16)).toInt = (pb : Int) ∧ pb < 1199) ∧ (s.a 15 pb = 57 ∧ (s.a 16 pb).toInt = (z : Int) ∧ z < 720) ∧ ((r.a 35 j).toInt = (qb : Int) ∧ (r.a 36 j).toInt = (l : Int)) ∧ (AL (pb + 1) qb e.h w 0 ((2, e.h, e.x, e.y, z, l, e.u) :: c) ∧ w ≤ W) ∧ HRW s r AL e c W n (p + 1) (r.a 37 j))
    ∨ (s.a 15 p = 30 ∧ ∃ p' : Nat, (cTg s (s.a 16 p)).toInt = (p' : Int) ∧ HRW s r AL e c W n p' k))
theorem HRW.cg {s S : CS} {r R : RS} {AL : Als} {e : Ent} {c : List Ent} {W : Nat} (e15 : S.a 15 = s.a 15) (e16 : S.a 16 = s.a 16) (e17 : S.a 17 = s.a 17) (g34 : R.a 34 = r.a 34) (g35 : R.a 35 = r.a 35) (g36 : R.a 36 = r.a 36) (g37 : R.a 37 = r.a 37) : ∀ (n p : Nat) (k : Int32), HRW S R AL e c W n p k = HRW s r AL e c W n p k := by
  intro n
  induction n with
  | zero => intro _ _; rfl
  | succ n ih =>
    intro p k
    unfold HRW
    have ec : cTg S = cTg s := by
      funext t
      unfold cTg
      rw [e17]
    rw [e15, e16, ec, g34, g35, g36, g37]
    simp only [ih]
def HBD (s : CS) (r : RS) (AL : Als) (e : Ent) (c : List Ent) (W : Nat) : Prop := ∃ n p : Nat, n ≤ 300 ∧ (∀ a : Int32, a.toInt = (e.x : Int) → (cTg s a).toInt = (p : Int)) ∧ HRW s r AL e c W n p (r.a 30 e.y)
def HFN (s : CS) (r : RS) (AL : Als) (e : Ent) (c : List Ent) (W : Nat) : Prop := ((r.a 31 e.y).toInt < 0 ∧ ∀ a : Int32, a.toInt = (e.x : Int) → (cTg s (a + 1)).toInt < 0) ∨ ∃ p q w : Nat, (r.a 31 e.y).toInt = (q : Int) ∧ (∀ a : Int32, a.toInt = (e.x : Int) → (cTg s (a + 1)).toInt = (p : Int)) ∧ p < 1200 ∧ AL p q e.h w 0 ((3, e.h, e.x, e.y, 0, 0, e.u) :: c) ∧ w ≤ W
/-- what was noted too late: all is good then -/
def LTGD (r : RS) (AL : Als) : Prop := 0 ≤ r.i 18 → ∀ (p q h w g : Nat) (c : List Ent), g ≤ 1 → AL p q h w g c
def TYC (s : CS) (r : RS) (AL : Als) (W : Nat) : List Ent → Prop
  | [] => LTGD r AL ∧ 1300 ≤ W
  | e :: c => (e.k = 1 → HBD s r AL e c W) ∧ (e.k = 1 ∨ e.k = 2 → HFN s r AL e c W) ∧ TYC s r AL W c
def E66 (s S : CS) : Prop := (∀ j : Nat, j ≠ 66 → S.i j = s.i j) ∧ S.a = s.a ∧ (S.r = s.r ∧ S.w = s.w ∧ S.o = s.o ∧ S.ot = s.ot ∧ S.oa = s.oa)
theorem E66.rf (s : CS) : E66 s s := ⟨fun _ _ => rfl, rfl, rfl, rfl, rfl, rfl, rfl⟩
theorem E66.tr {s S T : CS} (h : E66 s S) (g : E66 S T) : E66 s T := by
  obtain ⟨h1, h2, h3, h4, h5, h6, h7⟩ := h
  obtain ⟨g1, g2, g3, g4, g5, g6, g7⟩ := g
  exact ⟨fun j hj => (g1 j hj).trans (h1 j hj), g2.trans h2, g3.trans h3, g4.trans h4, g5.trans h5, g6.trans h6, g7.trans h7⟩
theorem E66.nx (s : CS) : E66 s (cNx s) := ⟨fun j hj => cNx_i hj, rfl, rfl, rfl, rfl, rfl, rfl⟩
theorem E66.to (s : CS) (x : Int32) : E66 s (CS.setI s 66 x) := ⟨fun j hj => ci_ne _ _ _ hj, rfl, rfl, rfl, rfl, rfl, rfl⟩
theorem TLV.e66 {s S : CS} {r : RS} {mu : Nat → Nat} {b : Nat} (e : E66 s S) (t : TLV s r mu b) : TLV S r mu b := by
  obtain ⟨-, -, h3, h4, h5, h6, h7⟩ := e
  unfold TLV THG inP at *
  rw [h3, h5, h7]
  exact t
theorem TLR.e66 {s S : CS} {r : RS} (e : E66 s S) (t : TLR s r) : TLR S r := t.of (fun j hj => e.1 j (by omega)) (fun k _ => by rw [e.2.1]) (RFX.rf r)
theorem cop_at {s : CS} {p : Nat} (h : (s.i 66).toInt = (p : Int)) (hp : p < 1200) : cOp s = s.a 15 p ∧ cAr s = s.a 16 p := by
  unfold cOp cAr gAt
  rw [if_pos ⟨by omega, by omega⟩, if_pos ⟨by omega, by omega⟩, cl_nat h]
  exact ⟨rfl, rfl⟩
theorem iu_both {N : Nat} (hN : 1000 ≤ N) {s : CS} {r : RS} (h : TLR s r) {k y : Int32} (h0 : 0 ≤ k.toInt) (h1 : k.toInt < (r.i 3).toInt) : ∃ v : Int32, f_X10_isUnder N s k y = some (v, s) ∧ f_X12_isUnder N r k y = some (v, r) := by
  have e12 : (12 : Int32).toInt = 12 := by decide
  have y12 := le_int h.2.2.2.1.2
  obtain ⟨v, -, v1, v2⟩ := t_und (N := N) h.2.2 h.2.1 (b := y) N N k 0 h0 h1 (by decide) (by rw [z_t0]; omega) (by omega) (by omega)
  exact ⟨v, v1, v2⟩
theorem cNx_66 {s : CS} {p : Nat} (h : (s.i 66).toInt = (p : Int)) (hp : p < 2000) : ((cNx s).i 66).toInt = ((p + 1 : Nat) : Int) := by
  unfold cNx
  rw [ci_at, ad1 (by omega) (by omega), h]
  rfl
/-- what comes of the rows -/
def HRO (N H : Nat) (D : Nat → List Nat) (T : Int32 × CS) (s0 : CS) (AL : Als) (e : Ent) (c : List Ent) (W : Nat) (s : CS) (r : RS) (b : Nat) (y : Int32) (P : Int32 × RS) (x : Int32) (n : Nat) : Prop := ∃ (S : CS) (x' : Int32), CRN N H D T s0 S x' ∧ x'.toInt ≤ x.toInt + n + 1 ∧ S.i 72 = -1 ∧ ((P.1 = 0 ∧ P.2 = r ∧ ∃ S1 : CS, E66 s S1 ∧ S = cAg S1 b) ∨ (¬ P.1 = 0 ∧ ∃ pb qb z l w j : Nat, (AL (pb + 1) qb e.h w 0 ((2, e.h, e.x, e.y, z, l, e.u) :: c) ∧ w ≤ W) ∧ (z < 720 ∧ (r.a 35 j).toInt = (qb : Int)) ∧ P.2 = RS.setI (RS.setI (RS.setA (RS.setA r 84 l (r.i 114)) 102 y.toNatClampNeg 1) 93 (r.a 104 y.toNatClampNeg)) 92 (r.a 35 j) ∧ ∃ S1 : CS, E66 s S1 ∧ (S1.i 66).toInt = ((pb + 1 : Nat) : Int) ∧ S = CS.putA S1 59 (upd (s.a 59) z (s.o b 3))))
theorem HRO.bk {N H : Nat} {D : Nat → List Nat} {T : Int32 × CS} {s0 : CS} {AL : Als} {e : Ent} {c : List Ent} {W : Nat} {s s1 : CS} {r : RS} {b : Nat} {y : Int32} {P : Int32 × RS} {x x1 : Int32} {n : Nat} (h : HRO N H D T s0 AL e c W s1 r b y P x1 n) (g : E66 s s1) (hx : x1.toInt ≤ x.toInt + 1) : HRO N H D T s0 AL e c W s r b y P x (n + 1) := by
  obtain ⟨S, x', h1, h2, h3, h4⟩ := h
  refine ⟨S, x', h1, by omega, h3, ?_⟩
  rcases h4 with ⟨a1, a2, S1, a3, a4⟩ | ⟨a1, pb, qb, z, l, w, j, a2, a3, a4, S1, a5, a6, a7⟩
  · exact Or.inl ⟨a1, a2, S1, g.tr a3, a4⟩
  · refine Or.inr ⟨a1, pb, qb, z, l, w, j, a2, a3, a4, S1, g.tr a5, a6, ?_⟩
    rw [a7, g.2.1, g.2.2.2.2.1]
theorem hr_loop {N H : Nat} (hN : 10000000000 ≤ N) {D : Nat → List Nat} {T : Int32 × CS} {s0 : CS} {AL : Als} {mu : Nat → Nat} {e : Ent} {c : List Ent} {W f b d : Nat} {y : Int32} {r : RS} (h24 : d < 24) (e114 : (r.i 114).toInt = (mu b : Int)) : ∀ (n m p : Nat) (k : Int32) (s : CS) (x : Int32) (P : Int32 × RS), HRW s r AL e c W n p k → CRN N H D T s0 s x → s.i 72 = -1 → s.i 73 = 0 → (s.i 66).toInt = (p : Int) → (s.i 67).toInt = (d : Int) + 1 → s.r 61 d = some f → s.ot f = some b → TLV s r mu b → TLR s r → x.toInt + n + 1 ≤ 4000000 → f_X12_isCaught_12 N m r y k = some P → HRO N H D T s0 AL e c W s r b y P x n := by
  intro n
  induction n with
  | zero =>
    intro _ _ _ _ _ _ h
    exact absurd h id
  | succ n ih =>
    intro m p k s x P h cr h72 h73 h66 h67 hf hb tl tr hx g
    obtain ⟨hp, h⟩ := h
    obtain ⟨o1, o2⟩ := cop_at h66 hp
    obtain ⟨S, e1, e2, e3, e4⟩ := cr.on hN h72 h73 (by omega)
    have x0 := cr.2.2.1.1
    have hx1 : (x + 1).toInt = x.toInt + 1 := ad1 x0 (by omega)
    cases m with
    | zero => cases g
    | succ m =>
      have g' : b_X12_isCaught_12 N (f_X12_isCaught_12 N m) r y k = some P := g
      unfold b_X12_isCaught_12 at g'
      rcases h with ⟨a1, a2⟩ | ⟨a1, j, pb, qb, z, l, w, a2, a3, ⟨a4, a5⟩, ⟨a6, a7, a8⟩, ⟨a9, a10⟩, a11, a12⟩ | ⟨a1, p', a2, a3⟩
      · have eS := xi_58 (o1.trans a1) h67 h24 hf hb e1
        have eS' : S = cAg (cNx s) b := eS
        have S72 : S.i 72 = -1 := by
          rw [eS']
          unfold cAg
          rw [ci_ne _ _ _ (by decide), ci_ne _ _ _ (by decide), ci_ne _ _ _ (by decide), ci_setW, cNx_i (by decide)]
          exact h72
        rw [if_pos (by rw [Int32.lt_iff_toInt_lt, z_t0]; exact a2)] at g'
        have gP := (Option.some.inj g').symm
        refine ⟨S, x + 1, e3 S72, by omega, S72, Or.inl ⟨by rw [gP], by rw [gP], cNx s, E66.nx s, eS'⟩⟩
      · obtain ⟨v, v1, v2⟩ := xi_56 (by omega) (o1.trans a1) h67 h24 hf hb e1
        have v2' : S = if v = 0 then cNx s else CS.setI (cNx s) 66 (cTg s (cAr s / 16)) := v2
        obtain ⟨⟨⟨t1, t2, t3⟩, -, -⟩, -, -, t4, t5⟩ := id tl
        obtain ⟨v', u1, u2⟩ := iu_both (N := N) (y := cAr s - cAr s / 16 * 16) (by omega) (tr.e66 (E66.nx s)) t4 t5
        rw [t1] at v1
        rw [v1] at u1
        have ev : v = v' := congrArg Prod.fst (Option.some.inj u1)
        rw [← ev, o2, a3] at u2
        rw [if_neg (by rw [Int32.lt_iff_toInt_lt, z_t0]; omega)] at g'
        obtain ⟨-, g1⟩ := hf_ite g'
        obtain ⟨-, g2⟩ := hf_ite g1
        rw [cl_nat e114, cl_nat a2, u2, ob_some] at g2
        by_cases cv : v = 0
        · rw [if_pos cv] at v2'
          have g3 : f_X12_isCaught_12 N m r y (r.a 37 j) = some P := (if_pos cv).symm.trans g2
          have n66 := cNx_66 h66 (by omega)
          have eC := E66.nx s
          rw [v2'] at e3
          have C72 : (cNx s).i 72 = -1 := (cNx_i (by decide)).trans h72
          have hr : HRW (cNx s) r AL e c W n (p + 1) (r.a 37 j) := by
            rw [HRW.cg (S := cNx s) (s := s) (r := r) (R := r) rfl rfl rfl rfl rfl rfl rfl]
            exact a12
          exact (ih m (p + 1) (r.a 37 j) (cNx s) (x + 1) P hr (e3 C72) C72 ((cNx_i (by decide)).trans h73) n66 (by rw [cNx_i (by decide)]; exact h67) hf hb (tl.e66 eC) (tr.e66 eC) (by omega) g3).bk eC (by omega)
        · rw [if_neg cv] at v2'
          have g3 := (if_neg cv).symm.trans g2
          obtain ⟨-, g4⟩ := hf_ite g3
          obtain ⟨-, g5⟩ := hf_ite g4
          have gP := (Option.some.inj g5).symm
          have E1 : E66 s S := by
            rw [v2']
            exact (E66.nx s).tr (E66.to _ _)
          have S66 : (S.i 66).toInt = (pb : Int) := by
            rw [v2', ci_at, o2]
            exact a4
          have S72 : S.i 72 = -1 := (E1.1 72 (by decide)).trans h72
          have S73 : S.i 73 = 0 := (E1.1 73 (by decide)).trans h73
          obtain ⟨S2, f1, f2, f3, f4⟩ := (e3 S72).on hN S72 S73 (by omega)
          obtain ⟨q1, q2⟩ := cop_at S66 (by omega)
          have sa := E1.2.1
          have f5 : S2 = CS.putA (cNx S) 59 (gPut (S.a 59) 720 (cAr S) (S.o b 3)) := xi_57 (q1.trans (by rw [sa]; exact a6)) (by rw [E1.1 67 (by decide)]; exact h67) h24 (by rw [E1.2.2.1]; exact hf) (by rw [E1.2.2.2.2.2.1]; exact hb) f1
          have zz : (cAr S).toInt = (z : Int) := by
            rw [q2, sa]
            exact a7
          have f6 : S2 = CS.putA (cNx S) 59 (upd (s.a 59) z (s.o b 3)) := by
            rw [f5]
            unfold gPut
            rw [if_pos ⟨by omega, by omega⟩, cl_nat zz, sa, E1.2.2.2.2.1]
          have T72 : S2.i 72 = -1 := by
            rw [f6]
            exact (cNx_i (by decide)).trans S72
          have hx2 : (x + 1 + 1).toInt = x.toInt + 1 + 1 := by rw [ad1 (by omega) (by omega), hx1]
          refine ⟨S2, x + 1 + 1, f3 T72, by omega, T72, Or.inr ⟨?_, pb, qb, z, l, w, j, a11, ⟨a8, a9⟩, ?_, cNx S, E1.tr (E66.nx S), cNx_66 S66 (by omega), f6⟩⟩
          · rw [gP]
            exact n10
          · rw [gP, cl_nat a10]
      · have eS := xi_30 (o1.trans a1) e1
        have eS' : S = CS.setI (cNx s) 66 (gAt (s.a 17) 1024 (cAr s)) := eS
        have E1 : E66 s S := by
          rw [eS']
          exact (E66.nx s).tr (E66.to _ _)
        have S66 : (S.i 66).toInt = (p' : Int) := by
          rw [eS', ci_at, o2]
          exact a2
        have S72 : S.i 72 = -1 := (E1.1 72 (by decide)).trans h72
        have hr : HRW S r AL e c W n p' k := by
          rw [HRW.cg (S := S) (s := s) (r := r) (R := r) (by rw [E1.2.1]) (by rw [E1.2.1]) (by rw [E1.2.1]) rfl rfl rfl rfl]
          exact a3
        exact (ih (m + 1) p' k S (x + 1) P hr (e3 S72) S72 ((E1.1 73 (by decide)).trans h73) S66 (by rw [E1.1 67 (by decide)]; exact h67) (by rw [E1.2.2.1]; exact hf) (by rw [E1.2.2.2.2.2.1]; exact hb) (tl.e66 E1) (tr.e66 E1) (by omega) g).bk E1 (by omega)
