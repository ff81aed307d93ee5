/-! both readers: what waits at a try is resolved -/
def WTS (s : RS) (k : Nat) : Prop := 0 < (s.i 56).toInt ∧ (s.a 60 k).toInt < (s.a 58 ((s.i 56).toInt - 1).toNat).toInt
def fBr (s : RS) (k : Nat) : Nat := if s.a 61 k = 0 then 51 else 50
def RSX (x1 x2 : Int32) (n0 : Int) (s R : RS) : Prop := (R.i = s.i ∧ R.l = s.l ∧ R.b = s.b ∧ (∀ k : Nat, k ≠ 50 → k ≠ 51 → k ≠ 62 → R.a k = s.a k)) ∧ (∀ k : Nat, (k : Int) < n0 ∨ (s.i 59).toInt ≤ (k : Int) ∨ ¬ s.a 62 k = x1 → R.a 62 k = s.a 62 k) ∧ (∀ k : Nat, n0 ≤ (k : Int) → (k : Int) < (s.i 59).toInt → s.a 62 k = x1 → (x2 = 0 ∧ R.a 62 k = -1) ∨ (¬ x2 = 0 ∧ WTS s k ∧ R.a 62 k = s.a 57 ((s.i 56).toInt - 1).toNat) ∨ (¬ x2 = 0 ∧ ¬ WTS s k ∧ R.a 62 k = -1 ∧ R.a (fBr s k) (s.a 60 k).toInt.toNat = 1)) ∧ (∀ f j : Nat, f = 50 ∨ f = 51 → R.a f j = s.a f j ∨ (R.a f j = 1 ∧ ∃ k : Nat, n0 ≤ (k : Int) ∧ (k : Int) < (s.i 59).toInt ∧ s.a 62 k = x1 ∧ ¬ x2 = 0 ∧ ¬ WTS s k ∧ (s.a 60 k).toInt = (j : Int) ∧ fBr s k = f))
/-- one that waits is looked at -/
theorem RSX.st {x1 x2 : Int32} {n0 : Int} {s s' R : RS} {n : Nat} (h : RSX x1 x2 (n0 + 1) s' R) (hn : n0 = (n : Int)) (h59 : (n : Int) < (s.i 59).toInt) (ei : s'.i = s.i) (el : s'.l = s.l) (eb : s'.b = s.b) (ea : ∀ k : Nat, k ≠ 50 → k ≠ 51 → k ≠ 62 → s'.a k = s.a k) (e62 : ∀ k : Nat, k ≠ n → s'.a 62 k = s.a 62 k) (hno : ¬ s.a 62 n = x1 → s'.a 62 n = s.a 62 n) (hyes : s.a 62 n = x1 → (x2 = 0 ∧ s'.a 62 n = -1) ∨ (¬ x2 = 0 ∧ WTS s n ∧ s'.a 62 n = s.a 57 ((s.i 56).toInt - 1).toNat) ∨ (¬ x2 = 0 ∧ ¬ WTS s n ∧ s'.a 62 n = -1 ∧ s'.a (fBr s n) (s.a 60 n).toInt.toNat = 1)) (hfl : ∀ f j : Nat, f = 50 ∨ f = 51 → s'.a f j = s.a f j ∨ (s'.a f j = 1 ∧ s.a 62 n = x1 ∧ ¬ x2 = 0 ∧ ¬ WTS s n ∧ (s.a 60 n).toInt = (j : Int) ∧ fBr s n = f)) : RSX x1 x2 n0 s R := by
  obtain ⟨⟨h1, h2, h3, h4⟩, h5, h6, h7⟩ := h
  have wts : ∀ k : Nat, WTS s' k ↔ WTS s k := fun k => by
    unfold WTS
    rw [ei, ea 60 (by decide) (by decide) (by decide), ea 58 (by decide) (by decide) (by decide)]
  have fbr : ∀ k : Nat, fBr s' k = fBr s k := fun k => by
    unfold fBr
    rw [ea 61 (by decide) (by decide) (by decide)]
  have a60 : s'.a 60 = s.a 60 := ea 60 (by decide) (by decide) (by decide)
  have f5 : ∀ k : Nat, fBr s k = 50 ∨ fBr s k = 51 := fun k => by
    unfold fBr
    by_cases c : s.a 61 k = 0
    · rw [if_pos c]; exact Or.inr rfl
    · rw [if_neg c]; exact Or.inl rfl
  have hi : s'.i 59 = s.i 59 := by rw [ei]
  refine ⟨⟨h1.trans ei, h2.trans el, h3.trans eb, fun k k1 k2 k3 => (h4 k k1 k2 k3).trans (ea k k1 k2 k3)⟩, fun k hk => ?_, fun k k1 k2 k3 => ?_, fun f j hf => ?_⟩
  · by_cases c : k = n
    · rw [c] at hk ⊢
      rw [h5 n (Or.inl (by omega))]
      rcases hk with z | z | z
      · omega
      · omega
      · exact hno z
    · rw [h5 k ?_]
      · exact e62 k c
      · rw [e62 k c, hi]
        rcases hk with z | z | z
        · exact Or.inl (by omega)
        · exact Or.inr (Or.inl z)
        · exact Or.inr (Or.inr z)
  · by_cases c : k = n
    · rw [c] at k3 ⊢
      have r62 : R.a 62 n = s'.a 62 n := h5 n (Or.inl (by omega))
      rw [r62]
      rcases hyes k3 with z | z | ⟨z1, z2, z3, z4⟩
      · exact Or.inl z
      · exact Or.inr (Or.inl z)
      · refine Or.inr (Or.inr ⟨z1, z2, z3, ?_⟩)
        rcases h7 (fBr s n) (s.a 60 n).toInt.toNat (f5 n) with y | y
        · rw [y]; exact z4
        · exact y.1
    · have k3' : s'.a 62 k = x1 := by rw [e62 k c]; exact k3
      rcases h6 k (by omega) (by rw [hi]; exact k2) k3' with z | ⟨z1, z2, z3⟩ | ⟨z1, z2, z3, z4⟩
      · exact Or.inl z
      · refine Or.inr (Or.inl ⟨z1, (wts k).mp z2, ?_⟩)
        rw [z3, ei, ea 57 (by decide) (by decide) (by decide)]
      · refine Or.inr (Or.inr ⟨z1, fun w => z2 ((wts k).mpr w), z3, ?_⟩)
        rw [fbr, a60] at z4
        exact z4
  · rcases h7 f j hf with y | ⟨y1, k, y2, y3, y4, y5, y6, y7, y8⟩
    · rcases hfl f j hf with w | ⟨w1, w2, w3, w4, w5, w6⟩
      · exact Or.inl (y.trans w)
      · exact Or.inr ⟨y.trans w1, n, by omega, h59, w2, w3, w4, w5, w6⟩
    · have c : k ≠ n := fun z => by omega
      rw [e62 k c] at y4
      rw [hi] at y3
      rw [a60] at y7
      rw [fbr] at y8
      exact Or.inr ⟨y1, k, by omega, y3, y4, y5, fun w => y6 ((wts k).mpr w), y7, y8⟩
theorem rs_x {N : Nat} {x1 x2 : Int32} : ∀ (n : Nat) (s R : RS) (x3 : Int32), 0 ≤ x3.toInt → f_X12_resolve_2 N n s x1 x2 x3 = some R → RSX x1 x2 x3.toInt s R
  | 0, _, _, _, _, e => by cases e
  | n + 1, s, R, x3, h0, e => by
    have e' : b_X12_resolve_2 N (f_X12_resolve_2 N n) s x1 x2 x3 = some R := e
    unfold b_X12_resolve_2 at e'
    by_cases c : s.i 59 ≤ x3
    · rw [if_pos c] at e'
      rw [← Option.some.inj e']
      have := le_int c
      exact ⟨⟨rfl, rfl, rfl, fun _ _ _ _ => rfl⟩, fun _ _ => rfl, fun k k1 k2 => by omega, fun _ _ _ => Or.inl rfl⟩
    · rw [if_neg c] at e'
      have c' : x3.toInt < (s.i 59).toInt := by
        by_cases q : (s.i 59).toInt ≤ x3.toInt
        · exact absurd (Int32.le_iff_toInt_le.mpr q) c
        · omega
      obtain ⟨hib, e'⟩ := hf_ite e'
      have x1' : (x3 + 1).toInt = x3.toInt + 1 := ad1 h0 (by have := hib.2; omega)
      have kn : x3.toInt = ((x3.toNatClampNeg : Nat) : Int) := by
        show x3.toInt = ((x3.toInt.toNat : Nat) : Int)
        omega
      obtain ⟨k, hk⟩ : ∃ k : Nat, k = x3.toNatClampNeg := ⟨_, rfl⟩
      rw [← hk] at e' kn
      have ih := fun (s' : RS) (h : f_X12_resolve_2 N n s' x1 x2 (x3 + 1) = some R) => rs_x n s' R (x3 + 1) (by omega) h
      rw [x1'] at ih
      have go : ¬ x2 = 0 → ¬ WTS s k → s.a 62 k = x1 → (∃ p : RS, f_X12_goes N (RS.setA s 62 k (-1)) (s.a 60 k) (s.a 61 k) = some p ∧ f_X12_resolve_2 N n p x1 x2 (x3 + 1) = some R) → RSX x1 x2 x3.toInt s R := fun q2 qw q62 ⟨p, hp, hr⟩ => by
        have fl : ∃ F : Nat, F = fBr s k ∧ 0 ≤ (s.a 60 k).toInt ∧ p = RS.setA (RS.setA s 62 k (-1)) F (s.a 60 k).toNatClampNeg 1 := by
          unfold f_X12_goes at hp
          unfold fBr
          by_cases z : s.a 61 k = 0
          · rw [if_pos z] at hp ⊢
            obtain ⟨w, hp⟩ := hf_ite hp
            exact ⟨51, rfl, w.1, (Option.some.inj hp).symm⟩
          · rw [if_neg z] at hp ⊢
            obtain ⟨w, hp⟩ := hf_ite hp
            exact ⟨50, rfl, w.1, (Option.some.inj hp).symm⟩
        obtain ⟨F, hF, g0, ep⟩ := fl
        have F5 : F = 50 ∨ F = 51 := by
          rw [hF]
          unfold fBr
          by_cases z : s.a 61 k = 0
          · rw [if_pos z]; exact Or.inr rfl
          · rw [if_neg z]; exact Or.inl rfl
        have nF : F ≠ 62 ∧ F ≠ 60 := by omega
        have p62 : ∀ j : Nat, j ≠ k → p.a 62 j = s.a 62 j := fun j hj => by
          rw [ep, setA_nk (fun z => nF.1 z.symm), setA_ne hj]
        have p62k : p.a 62 k = -1 := by
          rw [ep, setA_nk (fun z => nF.1 z.symm)]
          exact setA_at
        refine (ih p hr).st kn (by omega) (by rw [ep]; rfl) (by rw [ep]; rfl) (by rw [ep]; rfl) (fun j j1 j2 j3 => by
          rw [ep, setA_nk (by omega), setA_nk j3]) p62 (fun z => absurd q62 z) (fun _ => Or.inr (Or.inr ⟨q2, qw, p62k, ?_⟩)) (fun f j hf => ?_)
        · rw [← hF, ep]
          exact setA_at
        · by_cases z : f = F
          · by_cases y : j = (s.a 60 k).toNatClampNeg
            · refine Or.inr ⟨?_, q62, q2, qw, ?_, by rw [z, hF]⟩
              · rw [ep, z, y]
                exact setA_at
              · rw [y]
                show (s.a 60 k).toInt = (((s.a 60 k).toInt.toNat : Nat) : Int)
                omega
            · left
              rw [ep, z, setA_ne y, setA_nk (by omega)]
          · left
            rw [ep, setA_nk z, setA_nk (by omega)]
      by_cases c2 : s.a 62 k = x1
      · rw [if_pos c2] at e'
        by_cases c3 : x2 = 0
        · rw [if_pos c3] at e'
          refine (ih _ e').st kn (by omega) rfl rfl rfl (fun j j1 j2 j3 => setA_nk j3) (fun j hj => setA_ne hj) (fun z => absurd c2 z) (fun _ => Or.inl ⟨c3, setA_at⟩) (fun f j hf => Or.inl (by rw [setA_nk (by omega)]))
        · rw [if_neg c3] at e'
          by_cases c4 : s.i 56 ≤ 0
          · rw [if_pos c4] at e'
            have w0 := le_int c4
            rw [z_t0] at w0
            exact go c3 (fun z => by have := z.1; omega) c2 (by
              obtain ⟨p, hp, hr⟩ := hf_bind e'
              exact ⟨p, hp, hr⟩)
          · rw [if_neg c4] at e'
            obtain ⟨wib, e'⟩ := hf_ite e'
            have w0 : 0 < (s.i 56).toInt := by
              by_cases q : (s.i 56).toInt ≤ 0
              · exact absurd (Int32.le_iff_toInt_le.mpr (by rw [z_t0]; exact q)) c4
              · omega
            have w1 : (s.i 56 - 1).toNatClampNeg = ((s.i 56).toInt - 1).toNat := by
              show (s.i 56 - 1).toInt.toNat = _
              have e1 : (1 : Int32).toInt = 1 := by decide
              have hi := Int32.toInt_lt (s.i 56)
              rw [toInt_sub (by rw [e1]; omega) (by rw [e1]; omega), e1]
            rw [w1] at e'
            by_cases c5 : s.a 58 ((s.i 56).toInt - 1).toNat ≤ s.a 60 k
            · rw [if_pos c5] at e'
              have := le_int c5
              exact go c3 (fun z => by have := z.2; omega) c2 (by
                obtain ⟨p, hp, hr⟩ := hf_bind e'
                exact ⟨p, hp, hr⟩)
            · rw [if_neg c5] at e'
              have wt : WTS s k := ⟨w0, by
                by_cases q : (s.a 58 ((s.i 56).toInt - 1).toNat).toInt ≤ (s.a 60 k).toInt
                · exact absurd (Int32.le_iff_toInt_le.mpr q) c5
                · omega⟩
              refine (ih _ e').st kn (by omega) rfl rfl rfl (fun j j1 j2 j3 => setA_nk j3) (fun j hj => setA_ne hj) (fun z => absurd c2 z) (fun _ => Or.inr (Or.inl ⟨c3, wt, setA_at⟩)) (fun f j hf => Or.inl (by rw [setA_nk (by omega)]))
      · rw [if_neg c2] at e'
        exact (ih s e').st kn (by omega) rfl rfl rfl (fun _ _ _ _ => rfl) (fun _ _ => rfl) (fun _ => rfl) (fun z => absurd z c2) (fun _ _ _ => Or.inl rfl)
theorem STK.o14 {S : CS} {s : RS} : ∀ (L : List CEL) (c : CEL) (m e k : Int), STK S s (c :: L) m e k → ∀ y ∈ L, (S.o y.2.1 14).toInt ≤ (S.o c.2.1 14).toInt ∧ (S.o y.2.1 0 = 216 → (S.o y.2.1 15).toInt ≤ (S.o c.2.1 14).toInt)
  | [], _, _, _, _, _, y, hy => absurd hy List.not_mem_nil
  | c0 :: L, c, m, e, k, h, y, hy => by
    obtain ⟨m', e', k', -, h2, h3⟩ := h
    obtain ⟨⟨-, -, -, -, -, l14, l15, -⟩, -⟩ := h2 c0 rfl
    rcases List.mem_cons.mp hy with z | hy
    · rw [z]
      exact ⟨l14, l15⟩
    · obtain ⟨y1, y2⟩ := STK.o14 L c0 m' e' k' h3 y hy
      exact ⟨by omega, fun q => by have := y2 q; omega⟩
theorem JMQ.rsv {S R : CS} {s u : RS} {L : List CEL} {c1 : CEL} {B59 B29 : Int} {x2 wt : Int32} {W : Nat → Prop} (h : JMQ S s (c1 :: L) B59 B29) (hB : 0 ≤ B29) (ty : isTy (S.o c1.2.1 0)) (ord : ∀ y ∈ L, y.1 < c1.1) (inj : ∀ y ∈ L, ∀ z ∈ L, isGo (S.o y.2.1 0) → isGo (S.o z.2.1 0) → ceG y = ceG z → y = z) (inj1 : ∀ y ∈ L, ∀ z ∈ L, y.1 = z.1 → y = z) (o14 : ∀ y ∈ L, (S.o y.2.1 14).toInt ≤ (S.o c1.2.1 14).toInt ∧ (S.o y.2.1 0 = 216 → (S.o y.2.1 15).toInt ≤ (S.o c1.2.1 14).toInt))
    (wA : ∀ y ∈ L, isGo (S.o y.2.1 0) → ∀ k : Nat, (s.a 60 k).toInt = (ceG y : Int) → (W k → ∃ q ∈ L, isWl (S.o q.2.1 0) ∧ y.1 < q.1 ∧ wt = s.a 66 (ceT q) ∧ ∀ z ∈ L, q.1 < z.1 → ¬ isWl (S.o z.2.1 0)) ∧ (¬ W k → ∀ q ∈ L, y.1 < q.1 → ¬ isWl (S.o q.2.1 0)))
    (eo : ∀ y ∈ L, R.o y.2.1 = S.o y.2.1) (e54 : R.i 54 = S.i 54) (e55 : R.i 55 = S.i 55) (e52 : ∀ i : Nat, (i : Int) < (S.i 55).toInt → (¬ x2 = 0 → R.a 52 i = S.a 52 i) ∧ (x2 = 0 → (INR S c1 i ∧ R.a 52 i = 0) ∨ (¬ INR S c1 i ∧ R.a 52 i = S.a 52 i))) (e66 : ∀ y ∈ L, u.a 66 (ceT y) = s.a 66 (ceT y)) (e59 : u.i 59 = s.i 59) (e60 : u.a 60 = s.a 60) (e61 : u.a 61 = s.a 61)
    (p62 : ∀ k : Nat, ¬ s.a 62 k = s.a 66 (ceT c1) → u.a 62 k = s.a 62 k) (q62 : ∀ k : Nat, (k : Int) < (s.i 59).toInt → s.a 62 k = s.a 66 (ceT c1) → (x2 = 0 ∧ u.a 62 k = -1) ∨ (¬ x2 = 0 ∧ W k ∧ u.a 62 k = wt) ∨ (¬ x2 = 0 ∧ ¬ W k ∧ u.a 62 k = -1 ∧ u.a (fBr s k) (s.a 60 k).toInt.toNat = 1)) (fl : ∀ f j : Nat, f = 50 ∨ f = 51 → u.a f j = s.a f j ∨ (u.a f j = 1 ∧ ∃ k : Nat, (k : Int) < (s.i 59).toInt ∧ s.a 62 k = s.a 66 (ceT c1) ∧ ¬ x2 = 0 ∧ ¬ W k ∧ (s.a 60 k).toInt = (j : Int) ∧ fBr s k = f)) : JMQ R u L B59 B29 := by
  obtain ⟨h1, h2, h3, h4, h5, h6, h7, h8⟩ := h
  have z0 : (0 : Int32).toInt = 0 := z_t0
  have em : (-1 : Int32).toInt = -1 := by decide
  have c1m : c1 ∈ c1 :: L := List.mem_cons_self
  have mm : ∀ {y : CEL}, y ∈ L → y ∈ c1 :: L := fun hy => List.mem_cons_of_mem _ hy
  have n216 : ∀ v : Int32, isWl v → ¬ v = 216 := fun v w z => by
    rcases w with w | w | w <;> rw [z] at w <;> exact absurd w (by decide)
  have wlTy : ∀ v : Int32, isWl v → isTy v := fun v w => by
    rcases w with w | w | w
    · exact Or.inl w
    · exact Or.inr (Or.inl w)
    · exact Or.inr (Or.inr (Or.inl w))
  have tyWl : ∀ v : Int32, isTy v → ¬ isWl v → v = 216 := fun v t w => by
    rcases t with t | t | t | t
    · exact absurd (Or.inl t) w
    · exact absurd (Or.inr (Or.inl t)) w
    · exact absurd (Or.inr (Or.inr t)) w
    · exact t
  have idne : ∀ q ∈ L, isTy (S.o q.2.1 0) → ¬ s.a 66 (ceT q) = s.a 66 (ceT c1) := fun q hq t z => by
    have := h6 q (mm hq) c1 c1m t ty (ord q hq)
    rw [z] at this
    omega
  -- records
  have rc1 : ∀ y ∈ L, ∀ (b : Int) (i : Nat), b = 0 ∨ b = 1 → RCD R y b i → RCD S y b i ∧ (x2 = 0 → ¬ INR S c1 i) := fun y hy b i hb r => by
    obtain ⟨r1, r2⟩ := r
    rw [e55] at r1
    rw [eo y hy] at r2
    have g := h7 y (mm hy)
    obtain ⟨a1, a2⟩ := e52 i r1
    by_cases c : x2 = 0
    · rcases a2 c with ⟨b1, b2⟩ | ⟨b1, b2⟩
      · exfalso
        rw [b2, z0] at r2
        omega
      · rw [b2] at r2
        exact ⟨⟨r1, r2⟩, fun _ => b1⟩
    · rw [a1 c] at r2
      exact ⟨⟨r1, r2⟩, fun z => absurd z c⟩
  have rc2 : ∀ y ∈ L, ∀ (b : Int) (i : Nat), RCD S y b i → (x2 = 0 → ¬ INR S c1 i) → RCD R y b i := fun y hy b i r n => by
    obtain ⟨r1, r2⟩ := r
    obtain ⟨a1, a2⟩ := e52 i r1
    refine ⟨by rw [e55]; exact r1, ?_⟩
    rw [eo y hy]
    by_cases c : x2 = 0
    · rcases a2 c with ⟨b1, -⟩ | ⟨-, b2⟩
      · exact absurd b1 (n c)
      · rw [b2]; exact r2
    · rw [a1 c]; exact r2
  have inr : ∀ q ∈ L, ∀ i : Nat, INR R q i ↔ INR S q i := fun q hq i => by
    unfold INR
    rw [eo q hq]
  have saf : ∀ n i : Nat, SAF S (c1 :: L) n i → SAF R L n i := fun n i g q hq t l y => g q (mm hq) (by rw [← eo q hq]; exact t) l ((inr q hq i).mp y)
  -- a record behind c1's begin is in no range of a finally below
  have out : ∀ q ∈ L, ∀ i : Nat, (S.o c1.2.1 14).toInt ≤ (i : Int) → isTy (S.o q.2.1 0) → ¬ isWl (S.o q.2.1 0) → ¬ INR S q i := fun q hq i hi t w y => by
    have e := tyWl _ t w
    have a := (o14 q hq).2 e
    have b := y.2 e
    omega
  have pnd : ∀ y q, q ∈ L → isTy (S.o q.2.1 0) → ∀ (b : Int) (k : Nat), PND s y q b k → PND u y q b k := fun y q hq t b k g => by
    obtain ⟨g1, g2, g3, g4⟩ := g
    refine ⟨by rw [e59]; exact g1, by rw [e60]; exact g2, by rw [e61]; exact g3, ?_⟩
    rw [p62 k (fun z => idne q hq t (g4.symm.trans z)), e66 q hq]
    exact g4
  have fmo : ∀ g b, flg s g b = 1 → flg u g b = 1 := fun g b z => by
    unfold flg at *
    by_cases c : b = 0
    · rw [if_pos c] at z ⊢
      rcases fl 50 g (Or.inl rfl) with y | y
      · rw [y]; exact z
      · exact y.1
    · rw [if_neg c] at z ⊢
      rcases fl 51 g (Or.inr rfl) with y | y
      · rw [y]; exact z
      · exact y.1
  have fbr : ∀ (k : Nat) (b : Int), b = 0 ∨ b = 1 → (¬ s.a 61 k = 0 ↔ b = 0) → fBr s k = if b = 0 then 50 else 51 := fun k b hb z => by
    unfold fBr
    by_cases c : s.a 61 k = 0
    · have nb : ¬ b = 0 := fun w => (z.mpr w) c
      rw [if_pos c, if_neg nb]
    · rw [if_neg c, if_pos (z.mp c)]
  refine ⟨fun c hc q b hb i r => ?_, fun c hc q b hb r => ?_, fun k hk q hq t r => ?_, fun k k1 k2 => ?_, fun q hq t => ?_, fun q hq p hp t1 t2 l => ?_, fun c hc => ?_, ⟨fun i hi hg9 => ?_, fun c hc q b => ?_⟩⟩
  · rw [eo c hc] at q
    obtain ⟨r', nr⟩ := rc1 c hc b i hb r
    rcases h1 c (mm hc) q b hb i r' with z | ⟨k, p, hp, t, l, g, y⟩
    · exact Or.inl (fmo _ _ z)
    · rcases List.mem_cons.mp hp with e0 | hp
      · rw [e0] at t l g y
        obtain ⟨g1, g2, g3, g4⟩ := id g
        rcases q62 k g1 g4 with ⟨w1, -⟩ | ⟨w1, w2, w3⟩ | ⟨w1, w2, w3, w4⟩
        · exact absurd y (nr w1)
        · obtain ⟨p, hp, v1, v2, v3, v4⟩ := (wA c hc q k g2).1 w2
          refine Or.inr ⟨k, p, hp, by rw [eo p hp]; exact wlTy _ v1, v2, ⟨by rw [e59]; exact g1, by rw [e60]; exact g2, by rw [e61]; exact g3, by rw [w3, v3, e66 p hp]⟩, ?_⟩
          rw [inr p hp]
          have := (o14 p hp).1
          have := y.1
          exact ⟨by omega, fun z => absurd z (n216 _ v1)⟩
        · left
          rw [fbr k b hb g3] at w4
          unfold flg
          have gn : (s.a 60 k).toInt.toNat = ceG c := by omega
          rw [gn] at w4
          by_cases cb : b = 0
          · rw [if_pos cb] at w4 ⊢
            exact w4
          · rw [if_neg cb] at w4 ⊢
            exact w4
      · exact Or.inr ⟨k, p, hp, by rw [eo p hp]; exact t, l, pnd c p hp t b k g, (inr p hp i).mpr y⟩
  · rw [eo c hc] at q
    have old : flg s (ceG c) b = 1 → ∃ i : Nat, RCD R c b i ∧ (R.o c.2.1 14).toInt ≤ (i : Int) ∧ SAF R L c.1 i := fun z => by
      obtain ⟨i, i1, i2, i3⟩ := h2 c (mm hc) q b hb z
      exact ⟨i, rc2 c hc b i i1 (fun _ => i3 c1 c1m ty (ord c hc)), by rw [eo c hc]; exact i2, saf _ _ i3⟩
    have new : ∀ f : Nat, (f = if b = 0 then 50 else 51) → (∃ k : Nat, (k : Int) < (s.i 59).toInt ∧ s.a 62 k = s.a 66 (ceT c1) ∧ ¬ x2 = 0 ∧ ¬ W k ∧ (s.a 60 k).toInt = (ceG c : Int) ∧ fBr s k = f) → ∃ i : Nat, RCD R c b i ∧ (R.o c.2.1 14).toInt ≤ (i : Int) ∧ SAF R L c.1 i := fun f hf ⟨k, k1, k2, k3, k4, k5, k6⟩ => by
      obtain ⟨c', hc', g', l', b', hb', p', i, i1, i2, i3⟩ := h3 k k1 c1 c1m ty k2
      have hc2 : c' ∈ L := by
        rcases List.mem_cons.mp hc' with z | z
        · rw [z] at l'
          omega
        · exact z
      have ec : c' = c := inj c' hc2 c hc g' q (by have := p'.2.1; omega)
      have eb : b' = b := by
        have z := fbr k b' hb' p'.2.2.1
        rw [k6, hf] at z
        rcases hb with hb | hb <;> rcases hb' with hb' | hb'
        · omega
        · rw [if_pos hb, if_neg (by omega)] at z
          omega
        · rw [if_neg (by omega), if_pos hb'] at z
          omega
        · omega
      rw [ec, eb] at i1
      have a14 := (o14 c hc).1
      have i21 := i2.1
      refine ⟨i, rc2 c hc b i i1 (fun z => absurd z k3), by rw [eo c hc]; omega, fun p hp t l y => ?_⟩
      rw [eo p hp] at t
      exact out p hp i i21 t ((wA c hc q k k5).2 k4 p hp l) ((inr p hp i).mp y)
    unfold flg at r
    by_cases cb : b = 0
    · rw [if_pos cb] at r
      rcases fl 50 (ceG c) (Or.inl rfl) with y | ⟨y1, y2⟩
      · exact old (by unfold flg; rw [if_pos cb, ← y]; exact r)
      · exact new 50 (if_pos cb).symm y2
    · rw [if_neg cb] at r
      rcases fl 51 (ceG c) (Or.inr rfl) with y | ⟨y1, y2⟩
      · exact old (by unfold flg; rw [if_neg cb, ← y]; exact r)
      · exact new 51 (if_neg cb).symm y2
  · rw [e59] at hk
    rw [eo q hq] at t
    rw [e66 q hq] at r
    by_cases cid : s.a 62 k = s.a 66 (ceT c1)
    · have q0 := h5 q (mm hq) t
      rcases q62 k hk cid with ⟨w1, w2⟩ | ⟨w1, w2, w3⟩ | ⟨w1, w2, w3, w4⟩
      · exfalso
        rw [w2] at r
        rw [← r, em] at q0
        omega
      · obtain ⟨c, hc, g, l, b, hb, p, i, i1, i2, i3⟩ := h3 k hk c1 c1m ty cid
        have hc2 : c ∈ L := by
          rcases List.mem_cons.mp hc with z | z
          · rw [z] at l
            omega
          · exact z
        obtain ⟨p1, p2, p3, p4⟩ := id p
        obtain ⟨q', hq', v1, v2, v3, v4⟩ := (wA c hc2 g k p2).1 w2
        have eq : q' = q := by
          have e3 : s.a 66 (ceT q') = s.a 66 (ceT q) := by rw [← v3, ← w3, r]
          by_cases c3 : q'.1 < q.1
          · have := h6 q' (mm hq') q (mm hq) (wlTy _ v1) t c3
            rw [e3] at this
            omega
          · by_cases c4 : q.1 < q'.1
            · have := h6 q (mm hq) q' (mm hq') t (wlTy _ v1) c4
              rw [e3] at this
              omega
            · exact inj1 q' hq' q hq (by omega)
        rw [eq] at v1 v2 v4
        refine ⟨c, hc2, by rw [eo c hc2]; exact g, v2, b, hb, ⟨by rw [e59]; exact p1, by rw [e60]; exact p2, by rw [e61]; exact p3, by rw [r, e66 q hq]⟩, i, rc2 c hc2 b i i1 (fun z => absurd z w1), ?_, fun z hz tz lz y => ?_⟩
        · rw [inr q hq]
          have := (o14 q hq).1
          have := i2.1
          exact ⟨by omega, fun z => absurd z (n216 _ v1)⟩
        · rw [eo z hz] at tz
          exact out z hz i i2.1 tz (v4 z hz lz) ((inr z hz i).mp y)
      · exfalso
        rw [w3] at r
        rw [← r, em] at q0
        omega
    · rw [p62 k cid] at r
      obtain ⟨c, hc, g, l, b, hb, p, i, i1, i2, i3⟩ := h3 k hk q (mm hq) t r
      have hc2 : c ∈ L := by
        rcases List.mem_cons.mp hc with z | z
        · have := ord q hq
          rw [z] at l
          omega
        · exact z
      exact ⟨c, hc2, by rw [eo c hc2]; exact g, l, b, hb, pnd c q hq t b k p, i, rc2 c hc2 b i i1 (fun _ => i3 c1 c1m ty (ord q hq)), (inr q hq i).mpr i2, saf _ _ i3⟩
  · rw [e59] at k2
    by_cases cid : s.a 62 k = s.a 66 (ceT c1)
    · rcases q62 k k2 cid with ⟨w1, w2⟩ | ⟨w1, w2, w3⟩ | ⟨w1, w2, w3, w4⟩
      · exact Or.inl w2
      · obtain ⟨c, hc, g, l, b, hb, p, i, i1, i2, i3⟩ := h3 k k2 c1 c1m ty cid
        have hc2 : c ∈ L := by
          rcases List.mem_cons.mp hc with z | z
          · rw [z] at l
            omega
          · exact z
        obtain ⟨q', hq', v1, v2, v3, v4⟩ := (wA c hc2 g k p.2.1).1 w2
        exact Or.inr ⟨q', hq', by rw [eo q' hq']; exact wlTy _ v1, by rw [w3, v3, e66 q' hq']⟩
      · exact Or.inl w3
    · rw [p62 k cid]
      rcases h4 k k1 k2 with y | ⟨q, hq, t, r⟩
      · exact Or.inl y
      · rcases List.mem_cons.mp hq with z | hq
        · rw [z] at r
          exact absurd r cid
        · exact Or.inr ⟨q, hq, by rw [eo q hq]; exact t, by rw [e66 q hq]; exact r⟩
  · rw [eo q hq] at t
    rw [e66 q hq]
    exact h5 q (mm hq) t
  · rw [eo q hq] at t1
    rw [eo p hp] at t2
    rw [e66 q hq, e66 p hp]
    exact h6 q (mm hq) p (mm hp) t1 t2 l
  · rw [eo c hc, e54, e55]
    exact h7 c (mm hc)
  · rw [e55] at hi
    rw [e54]
    obtain ⟨c9, hc9, hl9⟩ := hg9
    rw [eo c9 hc9] at hl9
    have g := h8.1 i hi ⟨c9, mm hc9, hl9⟩
    obtain ⟨a1, a2⟩ := e52 i hi
    by_cases cx : x2 = 0
    · rcases a2 cx with ⟨-, b2⟩ | ⟨-, b2⟩
      · have c7 := h7 c1 c1m
        rw [b2, z0]
        omega
      · rw [b2]; exact g
    · rw [a1 cx]; exact g
  · rw [eo c hc] at q
    have z := h8.2 c (mm hc) q b
    unfold flg at *
    by_cases cb : b = 0
    · rw [if_pos cb] at z ⊢
      rcases fl 50 (ceG c) (Or.inl rfl) with y | y
      · rw [y]; exact z
      · exact Or.inr y.1
    · rw [if_neg cb] at z ⊢
      rcases fl 51 (ceG c) (Or.inr rfl) with y | y
      · rw [y]; exact z
      · exact Or.inr y.1
