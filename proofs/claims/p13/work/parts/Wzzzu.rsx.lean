section
/-! both readers: what waits at a try is resolved -/
def WTS (s : RS) (k : Nat) : Prop := 0 < (s.i 56).toInt ∧ (s.a 60 k).toInt < (s.a 58 ((s.i 56).toInt - 1).toNat).toInt
def fBr (s : RS) (k : Nat) : Nat := if s.a 61 k = 0 then 51 else 50
def RSX (x1 x2 : Int32) (n0 : Int) (s R : RS) : Prop := (R.i = s.i ∧ R.l = s.l ∧ R.b = s.b ∧ (∀ k : Nat, k ≠ 50 → k ≠ 51 → k ≠ 62 → R.a k = s.a k)) ∧ (∀ k : Nat, (k : Int) < n0 ∨ (s.i 59).toInt ≤ (k : Int) ∨ ¬ s.a 62 k = x1 → R.a 62 k = s.a 62 k) ∧ (∀ k : Nat, n0 ≤ (k : Int) → (k : Int) < (s.i 59).toInt → s.a 62 k = x1 → (x2 = 0 ∧ R.a 62 k = -1) ∨ (¬ x2 = 0 ∧ WTS s k ∧ R.a 62 k = s.a 57 ((s.i 56).toInt - 1).toNat) ∨ (¬ x2 = 0 ∧ ¬ WTS s k ∧ R.a 62 k = -1 ∧ R.a (fBr s k) (s.a 60 k).toInt.toNat = 1)) ∧ (∀ f j : Nat, f = 50 ∨ f = 51 → R.a f j = s.a f j ∨ (R.a f j = 1 ∧ ∃ k : Nat, n0 ≤ (k : Int) ∧ (k : Int) < (s.i 59).toInt ∧ s.a 62 k = x1 ∧ ¬ x2 = 0 ∧ ¬ WTS s k ∧ (s.a 60 k).toInt = (j : Int) ∧ fBr s k = f))
/-- one that waits is looked at -/
theorem RSX.st {x1 x2 : Int32} {n0 : Int} {s s' R : RS} {n : Nat} (h : RSX x1 x2 (n0 + 1) s' R) (hn : n0 = (n : Int)) (h59 : (n : Int) < (s.i 59).toInt) (ei : s'.i = s.i) (el : s'.l = s.l) (eb : s'.b = s.b) (ea : ∀ k : Nat, k ≠ 50 → k ≠ 51 → k ≠ 62 → s'.a k = s.a k) (e62 : ∀ k : Nat, k ≠ n → s'.a 62 k = s.a 62 k) (hno : ¬ s.a 62 n = x1 → s'.a 62 n = s.a 62 n) (hyes : s.a 62 n = x1 → (x2 = 0 ∧ s'.a 62 n = -1) ∨ (¬ x2 = 0 ∧ WTS s n ∧ s'.a 62 n = s.a 57 ((s.i 56).toInt - 1).toNat) ∨ (¬ x2 = 0 ∧ ¬ WTS s n ∧ s'.a 62 n = -1 ∧ s'.a (fBr s n) (s.a 60 n).toInt.toNat = 1)) (hfl : ∀ f j : Nat, f = 50 ∨ f = 51 → s'.a f j = s.a f j ∨ (s'.a f j = 1 ∧ s.a 62 n = x1 ∧ ¬ x2 = 0 ∧ ¬ WTS s n ∧ (s.a 60 n).toInt = (j : Int) ∧ fBr s n = f)) : RSX x1 x2 n0 s R := by
  obtain ⟨⟨h1, h2, h3, h4⟩, h5, h6, h7⟩ := h
  have wts : ∀ k : Nat, WTS s' k ↔ WTS s k := fun k => by
    unfold WTS
    rw [ei, ea 60 (by decide) (by decide) (by decide), ea 58 (by decide) (by decide) (by decide)]
  have fbr : ∀ k : Nat, fBr s' k = fBr s k := fun k => by
    unfold fBr
    rw [ea 61 (by decide) (by decide) (by decide)]
  have a60 : s'.a 60 = s.a 60 := ea 60 (by decide) (by decide) (by decide)
  have f5 : ∀ k : Nat, fBr s k = 50 ∨ fBr s k = 51 := fun k => by
    unfold fBr
    by_cases c : s.a 61 k = 0
    · rw [if_pos c]; exact Or.inr rfl
    · rw [if_neg c]; exact Or.inl rfl
  have hi : s'.i 59 = s.i 59 := by rw [ei]
  refine ⟨⟨h1.trans ei, h2.trans el, h3.trans eb, fun k k1 k2 k3 => (h4 k k1 k2 k3).trans (ea k k1 k2 k3)⟩, fun k hk => ?_, fun k k1 k2 k3 => ?_, fun f j hf => ?_⟩
  · by_cases c : k = n
    · rw [c] at hk ⊢
      rw [h5 n (Or.inl (by omega))]
      rcases hk with z | z | z
      · omega
      · omega
      · exact hno z
    · rw [h5 k ?_]
      · exact e62 k c
      · rw [e62 k c, hi]
        rcases hk with z | z | z
        · exact Or.inl (by omega)
        · exact Or.inr (Or.inl z)
        · exact Or.inr (Or.inr z)
  · by_cases c : k = n
    · rw [c] at k3 ⊢
      have r62 : R.a 62 n = s'.a 62 n := h5 n (Or.inl (by omega))
      rw [r62]
      rcases hyes k3 with z | z | ⟨z1, z2, z3, z4⟩
      · exact Or.inl z
      · exact Or.inr (Or.inl z)
      · refine Or.inr (Or.inr ⟨z1, z2, z3, ?_⟩)
        rcases h7 (fBr s n) (s.a 60 n).toInt.toNat (f5 n) with y | y
        · rw [y]; exact z4
        · exact y.1
    · have k3' : s'.a 62 k = x1 := by rw [e62 k c]; exact k3
      rcases h6 k (by omega) (by rw [hi]; exact k2) k3' with z | ⟨z1, z2, z3⟩ | ⟨z1, z2, z3, z4⟩
      · exact Or.inl z
      · refine Or.inr (Or.inl ⟨z1, (wts k).mp z2, ?_⟩)
        rw [z3, ei, ea 57 (by decide) (by decide) (by decide)]
      · refine Or.inr (Or.inr ⟨z1, fun w => z2 ((wts k).mpr w), z3, ?_⟩)
        rw [fbr, a60] at z4
        exact z4
  · rcases h7 f j hf with y | ⟨y1, k, y2, y3, y4, y5, y6, y7, y8⟩
    · rcases hfl f j hf with w | ⟨w1, w2, w3, w4, w5, w6⟩
      · exact Or.inl (y.trans w)
      · exact Or.inr ⟨y.trans w1, n, by omega, h59, w2, w3, w4, w5, w6⟩
    · have c : k ≠ n := fun z => by omega
      rw [e62 k c] at y4
      rw [hi] at y3
      rw [a60] at y7
      rw [fbr] at y8
      exact Or.inr ⟨y1, k, by omega, y3, y4, y5, fun w => y6 ((wts k).mpr w), y7, y8⟩
theorem rs_x {N : Nat} {x1 x2 : Int32} : ∀ (n : Nat) (s R : RS) (x3 : Int32), 0 ≤ x3.toInt → f_X12_resolve_2 N n s x1 x2 x3 = some R → RSX x1 x2 x3.toInt s R
  | 0, _, _, _, _, e => by cases e
  | n + 1, s, R, x3, h0, e => by
    have e' : b_X12_resolve_2 N (f_X12_resolve_2 N n) s x1 x2 x3 = some R := e
    unfold b_X12_resolve_2 at e'
    by_cases c : s.i 59 ≤ x3
    · rw [if_pos c] at e'
      rw [← Option.some.inj e']
      have := le_int c
      exact ⟨⟨rfl, rfl, rfl, fun _ _ _ _ => rfl⟩, fun _ _ => rfl, fun k k1 k2 => by omega, fun _ _ _ => Or.inl rfl⟩
    · rw [if_neg c] at e'
      have c' : x3.toInt < (s.i 59).toInt := by
        by_cases q : (s.i 59).toInt ≤ x3.toInt
        · exact absurd (Int32.le_iff_toInt_le.mpr q) c
        · omega
      obtain ⟨hib, e'⟩ := hf_ite e'
      have x1' : (x3 + 1).toInt = x3.toInt + 1 := ad1 h0 (by have := hib.2; omega)
      have kn : x3.toInt = ((x3.toNatClampNeg : Nat) : Int) := by
        show x3.toInt = ((x3.toInt.toNat : Nat) : Int)
        omega
      obtain ⟨k, hk⟩ : ∃ k : Nat, k = x3.toNatClampNeg := ⟨_, rfl⟩
      rw [← hk] at e' kn
      have ih := fun (s' : RS) (h : f_X12_resolve_2 N n s' x1 x2 (x3 + 1) = some R) => rs_x n s' R (x3 + 1) (by omega) h
      rw [x1'] at ih
      have go : ¬ x2 = 0 → ¬ WTS s k → s.a 62 k = x1 → (∃ p : RS, f_X12_goes N (RS.setA s 62 k (-1)) (s.a 60 k) (s.a 61 k) = some p ∧ f_X12_resolve_2 N n p x1 x2 (x3 + 1) = some R) → RSX x1 x2 x3.toInt s R := fun q2 qw q62 ⟨p, hp, hr⟩ => by
        have fl : ∃ F : Nat, F = fBr s k ∧ 0 ≤ (s.a 60 k).toInt ∧ p = RS.setA (RS.setA s 62 k (-1)) F (s.a 60 k).toNatClampNeg 1 := by
          unfold f_X12_goes at hp
          unfold fBr
          by_cases z : s.a 61 k = 0
          · rw [if_pos z] at hp ⊢
            obtain ⟨w, hp⟩ := hf_ite hp
            exact ⟨51, rfl, w.1, (Option.some.inj hp).symm⟩
          · rw [if_neg z] at hp ⊢
            obtain ⟨w, hp⟩ := hf_ite hp
            exact ⟨50, rfl, w.1, (Option.some.inj hp).symm⟩
        obtain ⟨F, hF, g0, ep⟩ := fl
        have F5 : F = 50 ∨ F = 51 := by
          rw [hF]
          unfold fBr
          by_cases z : s.a 61 k = 0
          · rw [if_pos z]; exact Or.inr rfl
          · rw [if_neg z]; exact Or.inl rfl
        have nF : F ≠ 62 ∧ F ≠ 60 := by omega
        have p62 : ∀ j : Nat, j ≠ k → p.a 62 j = s.a 62 j := fun j hj => by
          rw [ep, setA_nk (fun z => nF.1 z.symm), setA_ne hj]
        have p62k : p.a 62 k = -1 := by
          rw [ep, setA_nk (fun z => nF.1 z.symm)]
          exact setA_at
        refine (ih p hr).st kn (by omega) (by rw [ep]; rfl) (by rw [ep]; rfl) (by rw [ep]; rfl) (fun j j1 j2 j3 => by
          rw [ep, setA_nk (by omega), setA_nk j3]) p62 (fun z => absurd q62 z) (fun _ => Or.inr (Or.inr ⟨q2, qw, p62k, ?_⟩)) (fun f j hf => ?_)
        · rw [← hF, ep]
          exact setA_at
        · by_cases z : f = F
          · by_cases y : j = (s.a 60 k).toNatClampNeg
            · refine Or.inr ⟨?_, q62, q2, qw, ?_, by rw [z, hF]⟩
              · rw [ep, z, y]
                exact setA_at
              · rw [y]
                show (s.a 60 k).toInt = (((s.a 60 k).toInt.toNat : Nat) : Int)
                omega
            · left
              rw [ep, z, setA_ne y, setA_nk (by omega)]
          · left
            rw [ep, setA_nk z, setA_nk (by omega)]
      by_cases c2 : s.a 62 k = x1
      · rw [if_pos c2] at e'
        by_cases c3 : x2 = 0
        · rw [if_pos c3] at e'
          refine (ih _ e').st kn (by omega) rfl rfl rfl (fun j j1 j2 j3 => setA_nk j3) (fun j hj => setA_ne hj) (fun z => absurd c2 z) (fun _ => Or.inl ⟨c3, setA_at⟩) (fun f j hf => Or.inl (by rw [setA_nk (by omega)]))
        · rw [if_neg c3] at e'
          by_cases c4 : s.i 56 ≤ 0
          · rw [if_pos c4] at e'
            have w0 := le_int c4
            rw [z_t0] at w0
            exact go c3 (fun z => by have := z.1; omega) c2 (by
              obtain ⟨p, hp, hr⟩ := hf_bind e'
              exact ⟨p, hp, hr⟩)
          · rw [if_neg c4] at e'
            obtain ⟨wib, e'⟩ := hf_ite e'
            have w0 : 0 < (s.i 56).toInt := by
              by_cases q : (s.i 56).toInt ≤ 0
              · exact absurd (Int32.le_iff_toInt_le.mpr (by rw [z_t0]; exact q)) c4
              · omega
            have w1 : (s.i 56 - 1).toNatClampNeg = ((s.i 56).toInt - 1).toNat := by
              show (s.i 56 - 1).toInt.toNat = _
              have e1 : (1 : Int32).toInt = 1 := by decide
              have hi := Int32.toInt_lt (s.i 56)
              rw [toInt_sub (by rw [e1]; omega) (by rw [e1]; omega), e1]
            rw [w1] at e'
            by_cases c5 : s.a 58 ((s.i 56).toInt - 1).toNat ≤ s.a 60 k
            · rw [if_pos c5] at e'
              have := le_int c5
              exact go c3 (fun z => by have := z.2; omega) c2 (by
                obtain ⟨p, hp, hr⟩ := hf_bind e'
                exact ⟨p, hp, hr⟩)
            · rw [if_neg c5] at e'
              have wt : WTS s k := ⟨w0, by
                by_cases q : (s.a 58 ((s.i 56).toInt - 1).toNat).toInt ≤ (s.a 60 k).toInt
                · exact absurd (Int32.le_iff_toInt_le.mpr q) c5
                · omega⟩
              refine (ih _ e').st kn (by omega) rfl rfl rfl (fun j j1 j2 j3 => setA_nk j3) (fun j hj => setA_ne hj) (fun z => absurd c2 z) (fun _ => Or.inr (Or.inl ⟨c3, wt, setA_at⟩)) (fun f j hf => Or.inl (by rw [setA_nk (by omega)]))
      · rw [if_neg c2] at e'
        exact (ih s e').st kn (by omega) rfl rfl rfl (fun _ _ _ _ => rfl) (fun _ _ => rfl) (fun _ => rfl) (fun z => absurd z c2) (fun _ _ _ => Or.inl rfl)
theorem STK.o14 {S : CS} {s : RS} : ∀ (L : List CEL) (c : CEL) (m e k : Int), STK S s (c :: L) m e k → ∀ y ∈ L, (S.o y.2.1 14).toInt ≤ (S.o c.2.1 14).toInt ∧ (S.o y.2.1 0 = 216 → (S.o y.2.1 15).toInt ≤ (S.o c.2.1 14).toInt)
  | [], _, _, _, _, _, y, hy => absurd hy List.not_mem_nil
  | c0 :: L, c, m, e, k, h, y, hy => by
    obtain ⟨m', e', k', -, h2, h3⟩ := h
    obtain ⟨⟨-, -, -, -, -, l14, l15, -⟩, -⟩ := h2 c0 rfl
    rcases List.mem_cons.mp hy with z | hy
    · rw [z]
      exact ⟨l14, l15⟩
    · obtain ⟨y1, y2⟩ := STK.o14 L c0 m' e' k' h3 y hy
      exact ⟨by omega, fun q => by have := y2 q; omega⟩
theorem JMQ.rsv {S R : CS} {s u : RS} {L : List CEL} {c1 : CEL} {B59 B29 : Int} {x2 wt : Int32} {W : Nat → Prop} (h : JMQ S s (c1 :: L) B59 B29) (hB : 0 ≤ B29) (ty : isTy (S.o c1.2.1 0)) (ord : ∀ y ∈ L, y.1 < c1.1) (inj : ∀ y ∈ L, ∀ z ∈ L, isGo (S.o y.2.1 0) → isGo (S.o z.2.1 0) → ceG y = ceG z → y = z) (inj1 : ∀ y ∈ L, ∀ z ∈ L, y.1 = z.1 → y = z) (o14 : ∀ y ∈ L, (S.o y.2.1 14).toInt ≤ (S.o c1.2.1 14).toInt ∧ (S.o y.2.1 0 = 216 → (S.o y.2.1 15).toInt ≤ (S.o c1.2.1 14).toInt))
    (wA : ∀ y ∈ L, isGo (S.o y.2.1 0) → ∀ k : Nat, (s.a 60 k).toInt = (ceG y : Int) → (W k → ∃ q ∈ L, isWl (S.o q.2.1 0) ∧ y.1 < q.1 ∧ wt = s.a 66 (ceT q) ∧ ∀ z ∈ L, q.1 < z.1 → ¬ isWl (S.o z.2.1 0)) ∧ (¬ W k → ∀ q ∈ L, y.1 < q.1 → ¬ isWl (S.o q.2.1 0)))
    (eo : ∀ y ∈ L, R.o y.2.1 = S.o y.2.1) (e54 : R.i 54 = S.i 54) (e55 : R.i 55 = S.i 55) (e52 : ∀ i : Nat, (i : Int) < (S.i 55).toInt → (¬ x2 = 0 → R.a 52 i = S.a 52 i) ∧ (x2 = 0 → (INR S c1 i ∧ R.a 52 i = 0) ∨ (¬ INR S c1 i ∧ R.a 52 i = S.a 52 i))) (e66 : ∀ y ∈ L, u.a 66 (ceT y) = s.a 66 (ceT y)) (e59 : u.i 59 = s.i 59) (e60 : u.a 60 = s.a 60) (e61 : u.a 61 = s.a 61)
    (p62 : ∀ k : Nat, ¬ s.a 62 k = s.a 66 (ceT c1) → u.a 62 k = s.a 62 k) (q62 : ∀ k : Nat, (k : Int) < (s.i 59).toInt → s.a 62 k = s.a 66 (ceT c1) → (x2 = 0 ∧ u.a 62 k = -1) ∨ (¬ x2 = 0 ∧ W k ∧ u.a 62 k = wt) ∨ (¬ x2 = 0 ∧ ¬ W k ∧ u.a 62 k = -1 ∧ u.a (fBr s k) (s.a 60 k).toInt.toNat = 1)) (fl : ∀ f j : Nat, f = 50 ∨ f = 51 → u.a f j = s.a f j ∨ (u.a f j = 1 ∧ ∃ k : Nat, (k : Int) < (s.i 59).toInt ∧ s.a 62 k = s.a 66 (ceT c1) ∧ ¬ x2 = 0 ∧ ¬ W k ∧ (s.a 60 k).toInt = (j : Int) ∧ fBr s k = f)) : JMQ R u L B59 B29 := by
  obtain ⟨h1, h2, h3, h4, h5, h6, h7, h8⟩ := h
  have z0 : (0 : Int32).toInt = 0 := z_t0
  have em : (-1 : Int32).toInt = -1 := by decide
  have c1m : c1 ∈ c1 :: L := List.mem_cons_self
  have mm : ∀ {y : CEL}, y ∈ L → y ∈ c1 :: L := fun hy => List.mem_cons_of_mem _ hy
  have n216 : ∀ v : Int32, isWl v → ¬ v = 216 := fun v w z => by
    rcases w with w | w | w <;> rw [z] at w <;> exact absurd w (by decide)
  have wlTy : ∀ v : Int32, isWl v → isTy v := fun v w => by
    rcases w with w | w | w
    · exact Or.inl w
    · exact Or.inr (Or.inl w)
    · exact Or.inr (Or.inr (Or.inl w))
  have tyWl : ∀ v : Int32, isTy v → ¬ isWl v → v = 216 := fun v t w => by
    rcases t with t | t | t | t
    · exact absurd (Or.inl t) w
    · exact absurd (Or.inr (Or.inl t)) w
    · exact absurd (Or.inr (Or.inr t)) w
    · exact t
  have idne : ∀ q ∈ L, isTy (S.o q.2.1 0) → ¬ s.a 66 (ceT q) = s.a 66 (ceT c1) := fun q hq t z => by
    have := h6 q (mm hq) c1 c1m t ty (ord q hq)
    rw [z] at this
    omega
  -- records
  have rc1 : ∀ y ∈ L, ∀ (b : Int) (i : Nat), b = 0 ∨ b = 1 → RCD R y b i → RCD S y b i ∧ (x2 = 0 → ¬ INR S c1 i) := fun y hy b i hb r => by
    obtain ⟨r1, r2⟩ := r
    rw [e55] at r1
    rw [eo y hy] at r2
    have g := h7 y (mm hy)
    obtain ⟨a1, a2⟩ := e52 i r1
    by_cases c : x2 = 0
    · rcases a2 c with ⟨b1, b2⟩ | ⟨b1, b2⟩
      · exfalso
        rw [b2, z0] at r2
        omega
      · rw [b2] at r2
        exact ⟨⟨r1, r2⟩, fun _ => b1⟩
    · rw [a1 c] at r2
      exact ⟨⟨r1, r2⟩, fun z => absurd z c⟩
  have rc2 : ∀ y ∈ L, ∀ (b : Int) (i : Nat), RCD S y b i → (x2 = 0 → ¬ INR S c1 i) → RCD R y b i := fun y hy b i r n => by
    obtain ⟨r1, r2⟩ := r
    obtain ⟨a1, a2⟩ := e52 i r1
    refine ⟨by rw [e55]; exact r1, ?_⟩
    rw [eo y hy]
    by_cases c : x2 = 0
    · rcases a2 c with ⟨b1, -⟩ | ⟨-, b2⟩
      · exact absurd b1 (n c)
      · rw [b2]; exact r2
    · rw [a1 c]; exact r2
  have inr : ∀ q ∈ L, ∀ i : Nat, INR R q i ↔ INR S q i := fun q hq i => by
    unfold INR
    rw [eo q hq]
  have saf : ∀ n i : Nat, SAF S (c1 :: L) n i → SAF R L n i := fun n i g q hq t l y => g q (mm hq) (by rw [← eo q hq]; exact t) l ((inr q hq i).mp y)
  -- a record behind c1's begin is in no range of a finally below
  have out : ∀ q ∈ L, ∀ i : Nat, (S.o c1.2.1 14).toInt ≤ (i : Int) → isTy (S.o q.2.1 0) → ¬ isWl (S.o q.2.1 0) → ¬ INR S q i := fun q hq i hi t w y => by
    have e := tyWl _ t w
    have a := (o14 q hq).2 e
    have b := y.2 e
    omega
  have pnd : ∀ y q, q ∈ L → isTy (S.o q.2.1 0) → ∀ (b : Int) (k : Nat), PND s y q b k → PND u y q b k := fun y q hq t b k g => by
    obtain ⟨g1, g2, g3, g4⟩ := g
    refine ⟨by rw [e59]; exact g1, by rw [e60]; exact g2, by rw [e61]; exact g3, ?_⟩
    rw [p62 k (fun z => idne q hq t (g4.symm.trans z)), e66 q hq]
    exact g4
  have fmo : ∀ g b, flg s g b = 1 → flg u g b = 1 := fun g b z => by
    unfold flg at *
    by_cases c : b = 0
    · rw [if_pos c] at z ⊢
      rcases fl 50 g (Or.inl rfl) with y | y
      · rw [y]; exact z
      · exact y.1
    · rw [if_neg c] at z ⊢
      rcases fl 51 g (Or.inr rfl) with y | y
      · rw [y]; exact z
      · exact y.1
  have fbr : ∀ (k : Nat) (b : Int), b = 0 ∨ b = 1 → (¬ s.a 61 k = 0 ↔ b = 0) → fBr s k = if b = 0 then 50 else 51 := fun k b hb z => by
    unfold fBr
    by_cases c : s.a 61 k = 0
    · have nb : ¬ b = 0 := fun w => (z.mpr w) c
      rw [if_pos c, if_neg nb]
    · rw [if_neg c, if_pos (z.mp c)]
  refine ⟨fun c hc q b hb i r => ?_, fun c hc q b hb r => ?_, fun k hk q hq t r => ?_, fun k k1 k2 => ?_, fun q hq t => ?_, fun q hq p hp t1 t2 l => ?_, fun c hc => ?_, ⟨fun i hi hg9 => ?_, fun c hc q b => ?_⟩⟩
  · rw [eo c hc] at q
    obtain ⟨r', nr⟩ := rc1 c hc b i hb r
    rcases h1 c (mm hc) q b hb i r' with z | ⟨k, p, hp, t, l, g, y⟩
    · exact Or.inl (fmo _ _ z)
    · rcases List.mem_cons.mp hp with e0 | hp
      · rw [e0] at t l g y
        obtain ⟨g1, g2, g3, g4⟩ := id g
        rcases q62 k g1 g4 with ⟨w1, -⟩ | ⟨w1, w2, w3⟩ | ⟨w1, w2, w3, w4⟩
        · exact absurd y (nr w1)
        · obtain ⟨p, hp, v1, v2, v3, v4⟩ := (wA c hc q k g2).1 w2
          refine Or.inr ⟨k, p, hp, by rw [eo p hp]; exact wlTy _ v1, v2, ⟨by rw [e59]; exact g1, by rw [e60]; exact g2, by rw [e61]; exact g3, by rw [w3, v3, e66 p hp]⟩, ?_⟩
          rw [inr p hp]
          have := (o14 p hp).1
          have := y.1
          exact ⟨by omega, fun z => absurd z (n216 _ v1)⟩
        · left
          rw [fbr k b hb g3] at w4
          unfold flg
          have gn : (s.a 60 k).toInt.toNat = ceG c := by omega
          rw [gn] at w4
          by_cases cb : b = 0
          · rw [if_pos cb] at w4 ⊢
            exact w4
          · rw [if_neg cb] at w4 ⊢
            exact w4
      · exact Or.inr ⟨k, p, hp, by rw [eo p hp]; exact t, l, pnd c p hp t b k g, (inr p hp i).mpr y⟩
  · rw [eo c hc] at q
    have old : flg s (ceG c) b = 1 → ∃ i : Nat, RCD R c b i ∧ (R.o c.2.1 14).toInt ≤ (i : Int) ∧ SAF R L c.1 i := fun z => by
      obtain ⟨i, i1, i2, i3⟩ := h2 c (mm hc) q b hb z
      exact ⟨i, rc2 c hc b i i1 (fun _ => i3 c1 c1m ty (ord c hc)), by rw [eo c hc]; exact i2, saf _ _ i3⟩
    have new : ∀ f : Nat, (f = if b = 0 then 50 else 51) → (∃ k : Nat, (k : Int) < (s.i 59).toInt ∧ s.a 62 k = s.a 66 (ceT c1) ∧ ¬ x2 = 0 ∧ ¬ W k ∧ (s.a 60 k).toInt = (ceG c : Int) ∧ fBr s k = f) → ∃ i : Nat, RCD R c b i ∧ (R.o c.2.1 14).toInt ≤ (i : Int) ∧ SAF R L c.1 i := fun f hf ⟨k, k1, k2, k3, k4, k5, k6⟩ => by
      obtain ⟨c', hc', g', l', b', hb', p', i, i1, i2, i3⟩ := h3 k k1 c1 c1m ty k2
      have hc2 : c' ∈ L := by
        rcases List.mem_cons.mp hc' with z | z
        · rw [z] at l'
          omega
        · exact z
      have ec : c' = c := inj c' hc2 c hc g' q (by have := p'.2.1; omega)
      have eb : b' = b := by
        have z := fbr k b' hb' p'.2.2.1
        rw [k6, hf] at z
        rcases hb with hb | hb <;> rcases hb' with hb' | hb'
        · omega
        · rw [if_pos hb, if_neg (by omega)] at z
          omega
        · rw [if_neg (by omega), if_pos hb'] at z
          omega
        · omega
      rw [ec, eb] at i1
      have a14 := (o14 c hc).1
      have i21 := i2.1
      refine ⟨i, rc2 c hc b i i1 (fun z => absurd z k3), by rw [eo c hc]; omega, fun p hp t l y => ?_⟩
      rw [eo p hp] at t
      exact out p hp i i21 t ((wA c hc q k k5).2 k4 p hp l) ((inr p hp i).mp y)
    unfold flg at r
    by_cases cb : b = 0
    · rw [if_pos cb] at r
      rcases fl 50 (ceG c) (Or.inl rfl) with y | ⟨y1, y2⟩
      · exact old (by unfold flg; rw [if_pos cb, ← y]; exact r)
      · exact new 50 (if_pos cb).symm y2
    · rw [if_neg cb] at r
      rcases fl 51 (ceG c) (Or.inr rfl) with y | ⟨y1, y2⟩
      · exact old (by unfold flg; rw [if_neg cb, ← y]; exact r)
      · exact new 51 (if_neg cb).symm y2
  · rw [e59] at hk
    rw [eo q hq] at t
    rw [e66 q hq] at r
    by_cases cid : s.a 62 k = s.a 66 (ceT c1)
    · have q0 := h5 q (mm hq) t
      rcases q62 k hk cid with ⟨w1, w2⟩ | ⟨w1, w2, w3⟩ | ⟨w1, w2, w3, w4⟩
      · exfalso
        rw [w2] at r
        rw [← r, em] at q0
        omega
      · obtain ⟨c, hc, g, l, b, hb, p, i, i1, i2, i3⟩ := h3 k hk c1 c1m ty cid
        have hc2 : c ∈ L := by
          rcases List.mem_cons.mp hc with z | z
          · rw [z] at l
            omega
          · exact z
        obtain ⟨p1, p2, p3, p4⟩ := id p
        obtain ⟨q', hq', v1, v2, v3, v4⟩ := (wA c hc2 g k p2).1 w2
        have eq : q' = q := by
          have e3 : s.a 66 (ceT q') = s.a 66 (ceT q) := by rw [← v3, ← w3, r]
          by_cases c3 : q'.1 < q.1
          · have := h6 q' (mm hq') q (mm hq) (wlTy _ v1) t c3
            rw [e3] at this
            omega
          · by_cases c4 : q.1 < q'.1
            · have := h6 q (mm hq) q' (mm hq') t (wlTy _ v1) c4
              rw [e3] at this
              omega
            · exact inj1 q' hq' q hq (by omega)
        rw [eq] at v1 v2 v4
        refine ⟨c, hc2, by rw [eo c hc2]; exact g, v2, b, hb, ⟨by rw [e59]; exact p1, by rw [e60]; exact p2, by rw [e61]; exact p3, by rw [r, e66 q hq]⟩, i, rc2 c hc2 b i i1 (fun z => absurd z w1), ?_, fun z hz tz lz y => ?_⟩
        · rw [inr q hq]
          have := (o14 q hq).1
          have := i2.1
          exact ⟨by omega, fun z => absurd z (n216 _ v1)⟩
        · rw [eo z hz] at tz
          exact out z hz i i2.1 tz (v4 z hz lz) ((inr z hz i).mp y)
      · exfalso
        rw [w3] at r
        rw [← r, em] at q0
        omega
    · rw [p62 k cid] at r
      obtain ⟨c, hc, g, l, b, hb, p, i, i1, i2, i3⟩ := h3 k hk q (mm hq) t r
      have hc2 : c ∈ L := by
        rcases List.mem_cons.mp hc with z | z
        · have := ord q hq
          rw [z] at l
          omega
        · exact z
      exact ⟨c, hc2, by rw [eo c hc2]; exact g, l, b, hb, pnd c q hq t b k p, i, rc2 c hc2 b i i1 (fun _ => i3 c1 c1m ty (ord q hq)), (inr q hq i).mpr i2, saf _ _ i3⟩
  · rw [e59] at k2
    by_cases cid : s.a 62 k = s.a 66 (ceT c1)
    · rcases q62 k k2 cid with ⟨w1, w2⟩ | ⟨w1, w2, w3⟩ | ⟨w1, w2, w3, w4⟩
      · exact Or.inl w2
      · obtain ⟨c, hc, g, l, b, hb, p, i, i1, i2, i3⟩ := h3 k k2 c1 c1m ty cid
        have hc2 : c ∈ L := by
          rcases List.mem_cons.mp hc with z | z
          · rw [z] at l
            omega
          · exact z
        obtain ⟨q', hq', v1, v2, v3, v4⟩ := (wA c hc2 g k p.2.1).1 w2
        exact Or.inr ⟨q', hq', by rw [eo q' hq']; exact wlTy _ v1, by rw [w3, v3, e66 q' hq']⟩
      · exact Or.inl w3
    · rw [p62 k cid]
      rcases h4 k k1 k2 with y | ⟨q, hq, t, r⟩
      · exact Or.inl y
      · rcases List.mem_cons.mp hq with z | hq
        · rw [z] at r
          exact absurd r cid
        · exact Or.inr ⟨q, hq, by rw [eo q hq]; exact t, by rw [e66 q hq]; exact r⟩
  · rw [eo q hq] at t
    rw [e66 q hq]
    exact h5 q (mm hq) t
  · rw [eo q hq] at t1
    rw [eo p hp] at t2
    rw [e66 q hq, e66 p hp]
    exact h6 q (mm hq) p (mm hp) t1 t2 l
  · rw [eo c hc, e54, e55]
    exact h7 c (mm hc)
  · rw [e55] at hi
    rw [e54]
    obtain ⟨c9, hc9, hl9⟩ := hg9
    rw [eo c9 hc9] at hl9
    have g := h8.1 i hi ⟨c9, mm hc9, hl9⟩
    obtain ⟨a1, a2⟩ := e52 i hi
    by_cases cx : x2 = 0
    · rcases a2 cx with ⟨-, b2⟩ | ⟨-, b2⟩
      · have c7 := h7 c1 c1m
        rw [b2, z0]
        omega
      · rw [b2]; exact g
    · rw [a1 cx]; exact g
  · rw [eo c hc] at q
    have z := h8.2 c (mm hc) q b
    unfold flg at *
    by_cases cb : b = 0
    · rw [if_pos cb] at z ⊢
      rcases fl 50 (ceG c) (Or.inl rfl) with y | y
      · rw [y]; exact z
      · exact Or.inr y.1
    · rw [if_neg cb] at z ⊢
      rcases fl 51 (ceG c) (Or.inr rfl) with y | y
      · rw [y]; exact z
      · exact Or.inr y.1
end
section
/-! both readers: a try goes -/
/-- all but flags, what waits, ends of tries -/
def E5R (s u : RS) : Prop := (∀ k : Nat, k ≠ 52 → k ≠ 56 → k ≠ 63 → k ≠ 75 → u.i k = s.i k) ∧ u.l = s.l ∧ u.b = s.b ∧ ∀ k : Nat, k ≠ 32 → k ≠ 50 → k ≠ 51 → k ≠ 62 → u.a k = s.a k
theorem E5R.n {s u : RS} (h : E5R s u) : u.i 29 = s.i 29 ∧ u.i 20 = s.i 20 ∧ u.i 24 = s.i 24 ∧ u.i 33 = s.i 33 ∧ u.i 43 = s.i 43 ∧ u.i 38 = s.i 38 ∧ u.i 59 = s.i 59 := ⟨h.1 29 (by decide) (by decide) (by decide) (by decide), h.1 20 (by decide) (by decide) (by decide) (by decide), h.1 24 (by decide) (by decide) (by decide) (by decide), h.1 33 (by decide) (by decide) (by decide) (by decide), h.1 43 (by decide) (by decide) (by decide) (by decide), h.1 38 (by decide) (by decide) (by decide) (by decide), h.1 59 (by decide) (by decide) (by decide) (by decide)⟩
theorem E5R.f {s u : RS} (h : E5R s u) : (u.a 64 = s.a 64 ∧ u.a 65 = s.a 65 ∧ u.a 66 = s.a 66 ∧ u.a 67 = s.a 67 ∧ u.a 68 = s.a 68 ∧ u.a 69 = s.a 69 ∧ u.a 70 = s.a 70 ∧ u.a 71 = s.a 71 ∧ u.a 72 = s.a 72 ∧ u.a 73 = s.a 73) ∧ (u.a 44 = s.a 44 ∧ u.a 57 = s.a 57 ∧ u.a 58 = s.a 58 ∧ u.a 22 = s.a 22) ∧ (u.a 25 = s.a 25 ∧ u.a 27 = s.a 27 ∧ u.a 28 = s.a 28 ∧ u.a 30 = s.a 30 ∧ u.a 34 = s.a 34 ∧ u.a 37 = s.a 37) ∧ (u.a 46 = s.a 46 ∧ u.a 47 = s.a 47 ∧ u.a 48 = s.a 48 ∧ u.a 49 = s.a 49 ∧ u.a 40 = s.a 40 ∧ u.a 41 = s.a 41 ∧ u.a 60 = s.a 60 ∧ u.a 61 = s.a 61 ∧ u.a 1 = s.a 1 ∧ u.a 4 = s.a 4) := by
  have e := h.2.2.2
  exact ⟨⟨e 64 (by decide) (by decide) (by decide) (by decide), e 65 (by decide) (by decide) (by decide) (by decide), e 66 (by decide) (by decide) (by decide) (by decide), e 67 (by decide) (by decide) (by decide) (by decide), e 68 (by decide) (by decide) (by decide) (by decide), e 69 (by decide) (by decide) (by decide) (by decide), e 70 (by decide) (by decide) (by decide) (by decide), e 71 (by decide) (by decide) (by decide) (by decide), e 72 (by decide) (by decide) (by decide) (by decide), e 73 (by decide) (by decide) (by decide) (by decide)⟩, ⟨e 44 (by decide) (by decide) (by decide) (by decide), e 57 (by decide) (by decide) (by decide) (by decide), e 58 (by decide) (by decide) (by decide) (by decide), e 22 (by decide) (by decide) (by decide) (by decide)⟩, ⟨e 25 (by decide) (by decide) (by decide) (by decide), e 27 (by decide) (by decide) (by decide) (by decide), e 28 (by decide) (by decide) (by decide) (by decide), e 30 (by decide) (by decide) (by decide) (by decide), e 34 (by decide) (by decide) (by decide) (by decide), e 37 (by decide) (by decide) (by decide) (by decide)⟩, ⟨e 46 (by decide) (by decide) (by decide) (by decide), e 47 (by decide) (by decide) (by decide) (by decide), e 48 (by decide) (by decide) (by decide) (by decide), e 49 (by decide) (by decide) (by decide) (by decide), e 40 (by decide) (by decide) (by decide) (by decide), e 41 (by decide) (by decide) (by decide) (by decide), e 60 (by decide) (by decide) (by decide) (by decide), e 61 (by decide) (by decide) (by decide) (by decide), e 1 (by decide) (by decide) (by decide) (by decide), e 4 (by decide) (by decide) (by decide) (by decide)⟩⟩
theorem chn.e5 {s u : RS} (h : E5R s u) : ∀ (L : List Nat) (k : Int32), chn s k L → chn u k L
  | [], _, g => g
  | j :: L, k, g => ⟨g.1, by rw [h.n.2.2.1]; exact g.2.1, g.2.2.1, by rw [h.f.2.2.1.2.1]; exact chn.e5 h L _ g.2.2.2⟩
theorem kch.e5 {s u : RS} (h : E5R s u) : ∀ (L : List Nat) (k : Int32), kch s k L → kch u k L
  | [], _, g => g
  | j :: L, k, g => ⟨g.1, by rw [h.n.2.2.2.1]; exact g.2.1, g.2.2.1, by rw [h.f.2.2.1.2.2.2.2.2]; exact kch.e5 h L _ g.2.2.2⟩
theorem RFR.e5 {S : CS} {s u : RS} {a t g w : Nat} (h : E5R s u) (r : RFR S s a t g w) : RFR S u a t g w := by
  obtain ⟨⟨f64, f65, f66, f67, f68, f69, f70, f71, f72, f73⟩, ⟨f44, f57, f58, f22⟩, -, -⟩ := h.f
  unfold RFR F301 F302 F303 F203 F204 F205 F206 F207 F304 F212 F301 F218 FTR FTS F301 FBL at *
  rw [f64, f65, f66, f67, f68, f71, f72, f73, f44, f57, f58, h.n.1, h.2.2.1]
  exact r
theorem CST.e5 {S : CS} {s u : RS} {c : CEL} {m e k m' e' k' : Int} (h : E5R s u) (g : CST S s c m e k m' e' k') : CST S u c m e k m' e' k' := by
  obtain ⟨g1, g2, g3, g4, g5, g6, g7⟩ := g
  obtain ⟨⟨f64, f65, f66, f67, f68, f69, f70, f71, f72, f73⟩, ⟨f44, f57, f58, f22⟩, ⟨f25, f27, f28, f30, f34, f37⟩, -⟩ := h.f
  refine ⟨g1, g2, g3.e5 h, g4, fun q => ?_, g6, fun q => ?_⟩
  · obtain ⟨x1, x2, x3, L, y1, y2, y3, y4⟩ := g5 q
    rw [f66, f22, h.n.2.1]
    refine ⟨x1, x2, x3, L, ?_, chn.e5 h _ _ y2, ?_, y4⟩
    · unfold CSM at *
      rw [f28, f25]
      exact y1
    · unfold FQL at *
      rw [f67]
      exact y3
  · obtain ⟨x1, L, y1, y2, y3, y4⟩ := g7 q
    rw [f66, f30, f72]
    refine ⟨x1, L, kch.e5 h _ _ y1, ?_, y3, y4⟩
    unfold KMK at *
    rw [f34]
    exact y2
theorem LOW.e5 {S : CS} {s u : RS} {c : CEL} (h : E5R s u) (g : LOW S s c) : LOW S u c := by
  unfold LOW at *
  rw [h.f.1.1, h.f.1.2.1]
  exact g
theorem STK.e5 {S : CS} {s u : RS} (h : E5R s u) : ∀ (L : List CEL) (m e k : Int), STK S s L m e k → STK S u L m e k
  | [], _, _, _, _ => trivial
  | c :: L, m, e, k, g => by
    obtain ⟨m', e', k', g1, g2, g3⟩ := g
    exact ⟨m', e', k', g1.e5 h, fun c0 hc => ⟨(g2 c0 hc).1, (g2 c0 hc).2.e5 h⟩, STK.e5 h L m' e' k' g3⟩
theorem COL.e5 {S : CS} {s u : RS} {L : List CEL} {col : Nat → Option (Nat × Bool)} {b20 : Int} (g : COL S s L col b20) (h : E5R s u) : COL S u L col b20 := by
  obtain ⟨⟨f64, f65, f66, f67, f68, f69, f70, f71, f72, f73⟩, ⟨f44, f57, f58, f22⟩, -, ⟨-, -, f48, f49, -⟩⟩ := h.f
  unfold COL PLF at *
  rw [f22, f48, f49, f66, f67, f68, h.n.2.1]
  exact g
theorem RWI.pop2 {S R : CS} {n a : Nat} (h : RWI S) (n4 : n < 400) (hn : cnI S = (n : Int) + 1) (ha : S.r 51 n = some a) (er : R.r = S.r) (eo : ∀ b : Nat, b ≠ a → R.o b = S.o b) (eol : R.ol = S.ol) (ec : cnI R = (n : Int)) (ehk : R.hs = S.hs ∧ R.L = S.L ∧ R.k = S.k) (hs : sgI S ≤ sgI R) (he : eI S ≤ eI R) : RWI R := by
  obtain ⟨h1, h2, h3, ⟨h4, h5⟩, h6, h7, h8⟩ := h
  have tn : (cnI S).toNat = n + 1 := by omega
  have tr : (cnI R).toNat = n := by omega
  rw [tn] at h5 h6 h7 h8
  have h5' : NR S n := fun i hi => h5 i (by omega)
  have rs : RSQ S R n := fun i hi => ⟨by rw [er], fun b hb => ⟨eo b (fun z => by
    rw [z] at hb
    have := h2 i n a (by omega) n4 hb ha
    omega), by rw [eol]⟩⟩
  have iq : IQ S n := fun m hm => h6 m (by omega)
  obtain ⟨g1, g2, -, -, -⟩ := rs.sums h5'
  have e1 : WCS S (n + 1) = WCS S n + cost S (rowA S n) := rfl
  have e2 : SGS S (n + 1) = SGS S n + sgn S (rowA S n) := rfl
  have c0 := cost.ge S (rowA S n)
  have s0 : 0 ≤ sgn S (rowA S n) := by
    unfold sgn
    by_cases k1 : S.o (rowA S n) 0 = 302
    · rw [if_pos k1]; decide
    · rw [if_neg k1]
      by_cases k2 : S.o (rowA S n) 0 = 301 ∨ S.o (rowA S n) 0 = 212 ∨ S.o (rowA S n) 0 = 218 ∨ S.o (rowA S n) 0 = 213 ∨ S.o (rowA S n) 0 = 215 ∨ S.o (rowA S n) 0 = 216
      · rw [if_pos k2]; decide
      · rw [if_neg k2]; exact Int.le_refl _
  refine ⟨fun i b hi e => ?_, fun i j b hi hj e1 e2 => ?_, by rw [ehk.1, ehk.2.1]; exact h3, ⟨by omega, by rw [tr]; exact fun i hi => by rw [er]; exact h5' i hi⟩, by rw [tr]; exact iq.of rs h5', by rw [tr, g1]; omega, by rw [tr, g2]; omega⟩
  · rw [er] at e
    have := h1 i b hi e
    unfold oK at *
    rw [ehk.2.1, ehk.2.2]
    exact this
  · rw [er] at e1 e2
    exact h2 i j b hi hj e1 e2
theorem BO2.wl {B : CS} {b : RS} {S : CS} {s : RS} : ∀ (L : List CEL) (c : CEL) (m e k : Int), STK S s (c :: L) m e k → BO2 B b S (c :: L) → (b.i 56).toInt ≤ (ceW c : Int)
  | [], _, _, _, _, _, h => by
    have := h.2.1
    omega
  | c0 :: L, c, m, e, k, st, h => by
    obtain ⟨m', e', k', h1, h2, h3⟩ := st
    obtain ⟨l1, -⟩ := h2 c0 rfl
    have z := BO2.wl L c0 m' e' k' h3 h
    have := l1.2.2.2.1
    omega
set_option maxHeartbeats 2000000 in
theorem COR.remT {d : Int32} {B : CS} {b : RS} {t0 : Nat} {L : List CEL} {x : Int} {S R : CS} {s σ0 σ1 v : RS} {c1 c : CEL} {x2 vv : Int32} (h : COR d B b t0 (c1 :: c :: L) x S s) (tp : TOP S s c1) (bz : BAZ B b (c1 :: c :: L)) (hT : t0 ≤ ceT c1) (ty : isTy (S.o c1.2.1 0))
    (σi : σ0.i 59 = s.i 59 ∧ (σ0.i 56).toInt = (ceW c1 : Int)) (σa : ∀ k : Nat, k ≠ 32 → σ0.a k = s.a k) (rx : RSX (s.a 66 (ceT c1)) x2 0 σ0 σ1)
    (ve : E5R s v) (v56 : v.i 56 = σ0.i 56) (v75 : v.i 75 = vv) (v63 : tpI v = (ceT c1 : Int) - 1) (va : v.a 50 = σ1.a 50 ∧ v.a 51 = σ1.a 51 ∧ v.a 62 = σ1.a 62)
    (Ri : ∀ k : Nat, k ≠ 36 → k ≠ 38 → k ≠ 53 → R.i k = S.i k) (hvv : vv = 0 ∨ vv = 1) (R36 : R.i 36 = vv) (R38 : (R.i 38).toInt = (S.i 38).toInt - 1) (R53 : (R.i 53).toInt = (c.1 : Int) + 1) (Rr : R.r = S.r ∧ R.ol = S.ol ∧ R.b = S.b ∧ R.l = S.l ∧ (R.hs = S.hs ∧ R.L = S.L ∧ R.k = S.k)) (Ro : ∀ a : Nat, a ≠ c1.2.1 → R.o a = S.o a) (Ra : R.a 0 = S.a 0 ∧ R.a 9 = S.a 9 ∧ R.a 18 = S.a 18 ∧ R.a 49 = S.a 49) (R52 : ∀ i : Nat, (i : Int) < (S.i 55).toInt → (¬ x2 = 0 → R.a 52 i = S.a 52 i) ∧ (x2 = 0 → (INR S c1 i ∧ R.a 52 i = 0) ∨ (¬ INR S c1 i ∧ R.a 52 i = S.a 52 i))) (o50 : S.i 50 = S.o c1.2.1 3) {w0 : Int32} (hw0 : w0.toInt = (b.i 19).toInt + (nSg (S.o c1.2.1 0) : Int)) : POPD d B (RS.setI b 19 w0) t0 c L R v := by
  have adr := h.adr
  have hinL := h.inlB tp
  obtain ⟨h1, h2, h3, h4, h5, ⟨h6, h7, h8, h9⟩, ⟨h10, h11, h12, hsg⟩, h13, ⟨h14, h15, h16⟩, h17, ⟨h18, h19, h20, col, h21⟩⟩ := h
  have ord := STK.ord (c :: L) c1 _ _ _ h2
  obtain ⟨inj1, inj2⟩ := STK.inj (c1 :: c :: L) _ _ _ h2
  have o14 := STK.o14 (c :: L) c1 _ _ _ h2
  have s14 := BAZ.o14 h5 (c :: L) c1 _ _ _ bz h2
  obtain ⟨m', e', k', c1s, lkl, stl⟩ := id h2
  obtain ⟨lk, lw⟩ := lkl c rfl
  have t1 := tp.1
  have n1 := lk.1
  obtain ⟨r1, r2, r3, r4, r5⟩ := BAZ.all h5 L c _ _ _ bz stl (by omega)
  obtain ⟨hB38, hWb⟩ := BAZ.b38 _ bz
  obtain ⟨n29, n20, n24, n33, n43, n38, n59⟩ := ve.n
  obtain ⟨⟨f64, f65, f66, f67, f68, f69, f70, f71, f72, f73⟩, ⟨f44, f57, f58, f22⟩, ⟨f25, f27, f28, f30, f34, f37⟩, ⟨f46, f47, f48, f49, f40, f41, f60, f61, f1, f4⟩⟩ := ve.f
  have eoL : ∀ y ∈ c :: L, R.o y.2.1 = S.o y.2.1 := fun y hy => Ro y.2.1 (adr y hy)
  obtain ⟨d1, d2⟩ := DSM.eq (c :: L) eoL
  have ngo : ¬ isGo (S.o c1.2.1 0) := fun z => by
    rcases ty with t | t | t | t <;> rw [t] at z <;> unfold isGo at z <;> exact absurd z (by decide)
  have n218 : ¬ S.o c1.2.1 0 = 218 := fun z => ngo (Or.inr (Or.inl z))
  have dp1 : nDp (S.o c1.2.1 0) = 1 := by
    rcases ty with t | t | t | t <;> rw [t] <;> rfl
  have db0 : dbt (S.o c1.2.1 0) = 0 := by
    rcases ty with t | t | t | t <;> rw [t] <;> rfl
  have i22 := Ri 22 (by decide) (by decide) (by decide)
  have i21 := Ri 21 (by decide) (by decide) (by decide)
  have i44 := Ri 44 (by decide) (by decide) (by decide)
  have i43 := Ri 43 (by decide) (by decide) (by decide)
  have i34 := Ri 34 (by decide) (by decide) (by decide)
  have i50 := Ri 50 (by decide) (by decide) (by decide)
  have i54 := Ri 54 (by decide) (by decide) (by decide)
  have i55 := Ri 55 (by decide) (by decide) (by decide)
  have i56 := Ri 56 (by decide) (by decide) (by decide)
  have e1 : PDM S (c1 :: c :: L) = dbt (S.o c1.2.1 0) + PDM S (c :: L) := rfl
  have e2 : DSM S (c1 :: c :: L) = (nDp (S.o c1.2.1 0) : Int) + DSM S (c :: L) := rfl
  rw [e1, db0] at h11
  rw [e2, dp1] at h13
  obtain ⟨h13, h13b⟩ := h13
  have ds := (PDM.ge S (c :: L)).2
  obtain ⟨em, ee⟩ := c1s.2.2.2.1 n218
  -- the walls below
  have wl := WLT L c _ _ _ stl r3
  have l5 := lk.2.2.2.1
  have v56' : (v.i 56).toInt = (ceW c1 : Int) := by rw [v56]; exact σi.2
  have hwp := h1.wp
  have tbw := h7.2.2.2.2.2.1
  have gl := STK.gl L c _ _ _ stl r1
  have glb := STK.glb L c _ _ _ stl r1
  have wpv : WPI v := by
    refine ⟨⟨by rw [n43]; exact hwp.1.1, by omega, fun z => ?_, by rw [n29]; exact hwp.1.2.2.2⟩, fun j hj => ?_⟩
    · rw [f58, n43]
      rcases wl with ⟨w, hw, w1, w2, -⟩ | ⟨-, w2, w3⟩
      · obtain ⟨⟨-, z2⟩, -⟩ := stl.ty w hw w1
        have g3 := gl.2 w hw
        have tg := tp.2.1
        have en : ((v.i 56).toInt - 1).toNat = ceW w := by omega
        have l3 := lk.2.2.1
        rw [en, z2]
        omega
      · have en : ((v.i 56).toInt - 1).toNat = ((b.i 56).toInt - 1).toNat := by omega
        have y := (tbw ((b.i 56).toInt - 1).toNat (by omega)).2
        have z3 := w3 (by omega)
        have := h7.2.1
        rw [en, y]
        omega
    · rw [n59] at hj
      rw [va.2.2, n29]
      have z0 := hwp.2 j hj
      by_cases c0 : s.a 62 j = s.a 66 (ceT c1)
      · rcases rx.2.2.1 j (by omega) (by rw [σi.1]; exact hj) (by rw [σa 62 (by decide)]; exact c0) with ⟨-, y⟩ | ⟨-, y1, y2⟩ | ⟨-, -, y, -⟩
        · rw [y]
          have em1 : (-1 : Int32).toInt = -1 := by decide
          have := (h2.ids c1 List.mem_cons_self ty)
          rw [em1]
          omega
        · rw [y2, σa 57 (by decide), σi.2]
          rcases wl with ⟨w, hw, w1, w2, -⟩ | ⟨-, w2, w3⟩
          · obtain ⟨⟨z1, -⟩, z3⟩ := stl.ty w hw w1
            have en : ((ceW c1 : Int) - 1).toNat = ceW w := by omega
            rw [en, z1]
            exact z3
          · exfalso
            obtain ⟨q1, q2⟩ := y1
            rw [σa 60 (by decide), σa 58 (by decide)] at q2
            rw [σi.2] at q1 q2
            obtain ⟨c', hc', g', l', _, -, p', -⟩ := h3.2.2.1 j hj c1 List.mem_cons_self ty c0
            have hc2 : c' ∈ c :: L := by
              rcases List.mem_cons.mp hc' with z | z
              · rw [z] at l'
                omega
              · exact z
            have g1 := glb c' hc2
            have g2 := p'.2.1
            have en : ((ceW c1 : Int) - 1).toNat = ((b.i 56).toInt - 1).toNat := by omega
            have y := (tbw ((b.i 56).toInt - 1).toNat (by omega)).2
            have z3 := w3 (by omega)
            rw [en, y] at q2
            omega
        · rw [y]
          have em1 : (-1 : Int32).toInt = -1 := by decide
          have := (h2.ids c1 List.mem_cons_self ty)
          rw [em1]
          omega
      · rw [rx.2.1 j (Or.inr (Or.inr (by rw [σa 62 (by decide)]; exact c0))), σa 62 (by decide)]
        exact z0
  have evv : ENV d S v := by
    have vi := ve.1
    refine h1.kq n38 (vi 2 (by decide) (by decide) (by decide) (by decide)) (vi 3 (by decide) (by decide) (by decide) (by decide)) (vi 18 (by decide) (by decide) (by decide) (by decide)) (vi 53 (by decide) (by decide) (by decide) (by decide)) (vi 54 (by decide) (by decide) (by decide) (by decide)) (vi 55 (by decide) (by decide) (by decide) (by decide)) f1 f4 f41 (by rw [ve.2.2.1]) (by rw [ve.2.2.1]) (vi 10 (by decide) (by decide) (by decide) (by decide)) (vi 11 (by decide) (by decide) (by decide) (by decide)) (vi 12 (by decide) (by decide) (by decide) (by decide)) (vi 14 (by decide) (by decide) (by decide) (by decide)) (vi 15 (by decide) (by decide) (by decide) (by decide)) (vi 17 (by decide) (by decide) (by decide) (by decide)) (vi 19 (by decide) (by decide) (by decide) (by decide)) ve.2.1 ?_ wpv
    unfold phI
    rw [n20, vi 17 (by decide) (by decide) (by decide) (by decide)]
    exact ⟨h1.2.2.2.2.2.2.1, h1.2.2.2.2.2.2.2.1⟩
  have v11 : v.i 11 = s.i 11 := ve.1 11 (by decide) (by decide) (by decide) (by decide)
  have v17 : v.i 17 = s.i 17 := ve.1 17 (by decide) (by decide) (by decide) (by decide)
  have phv : phI v = phI s := by
    unfold phI
    rw [n20, v17]
  have rwR : RWI R := h1.ri.pop2 (n := c1.1) (a := c1.2.1) c1s.2.1 tp.1 c1s.1 Rr.1 Ro Rr.2.1 (by show (R.i 53).toInt = _; omega) Rr.2.2.2.2 (by unfold sgI; rw [i34]; exact Int.le_refl _) (by unfold eI plI; rw [i43, i44]; exact Int.le_refl _)
  have evR : ENV d R v := by
    refine evv.gx (fun j q1 q2 q3 q4 q5 q6 q7 => ?_) ⟨Ra.1, Ra.2.1, Ra.2.2.2⟩ Rr.2.2.1 Rr.2.2.2.1 rwR ?_ (by rw [i21]; exact evv.t21)
    · exact Ri j q2 q3 q4
    · have z := evv.sj
      unfold SJB at *
      rw [i54, i55]
      omega
  -- the rows below
  have stR : STK R v (c :: L) (R.i 22).toInt (v.i 24).toInt (v.i 33).toInt := by
    have z := STK.e5 ve _ _ _ _ (STK.eo Rr.1 Ra.2.2.1 (c :: L) _ _ _ (fun y hy => ⟨eoL y hy, by rw [Rr.2.1]⟩) stl)
    rw [em, ee] at z
    rw [i22, n24, n33]
    refine z.hi (Int.le_refl _) ?_
    exact (c1s.2.2.2.2.2.2 ty).1
  have B2 : ∀ j : Nat, (j : Int) < (s.i 59).toInt → s.a 62 j = s.a 66 (ceT c1) → ∃ c' ∈ c :: L, (s.a 60 j).toInt = (ceG c' : Int) := fun j hj c0 => by
    obtain ⟨c', hc', g', l', _, -, p', -⟩ := h3.2.2.1 j hj c1 List.mem_cons_self ty c0
    rcases List.mem_cons.mp hc' with z | z
    · rw [z] at l'
      omega
    · exact ⟨c', z, p'.2.1⟩
  have wA : ∀ y ∈ c :: L, isGo (S.o y.2.1 0) → ∀ k : Nat, (s.a 60 k).toInt = (ceG y : Int) → (WTS σ0 k → ∃ q ∈ c :: L, isWl (S.o q.2.1 0) ∧ y.1 < q.1 ∧ s.a 57 ((ceW c1 : Int) - 1).toNat = s.a 66 (ceT q) ∧ ∀ z ∈ c :: L, q.1 < z.1 → ¬ isWl (S.o z.2.1 0)) ∧ (¬ WTS σ0 k → ∀ q ∈ c :: L, y.1 < q.1 → ¬ isWl (S.o q.2.1 0)) := fun y hy gy k hk => by
    have g1 := glb y hy
    have ny := nGo1 gy
    have my := List.mem_cons_of_mem c1 hy
    have e60 : σ0.a 60 = s.a 60 := σa 60 (by decide)
    have e58 : σ0.a 58 = s.a 58 := σa 58 (by decide)
    rcases wl with ⟨w, hw, w1, w2, w3⟩ | ⟨w1, w2, w3⟩
    · obtain ⟨⟨z1, z2⟩, -⟩ := stl.ty w hw w1
      have en : ((ceW c1 : Int) - 1).toNat = ceW w := by omega
      have mw := List.mem_cons_of_mem c1 hw
      refine ⟨fun ⟨q1, q2⟩ => ?_, fun nq q hq l wq => ?_⟩
      · rw [e60, e58, σi.2, en] at q2
        refine ⟨w, hw, w1, ?_, by rw [en, z1], w3⟩
        by_cases l1 : y.1 < w.1
        · exact l1
        · exfalso
          by_cases l2 : w.1 < y.1
          · have := (inj2 w mw y my l2).2.1
            omega
          · have e0 := inj1 y my w mw (by omega)
            rw [e0] at gy
            rcases w1 with t | t | t <;> rw [t] at gy <;> unfold isGo at gy <;> exact absurd gy (by decide)
      · have wq2 : ¬ w.1 < q.1 := fun z => w3 q hq z wq
        have l1 : y.1 < w.1 := by omega
        have := (inj2 y my w mw l1).2.1
        exact nq ⟨by rw [σi.2]; omega, by rw [e60, e58, σi.2, en]; omega⟩
    · refine ⟨fun ⟨q1, q2⟩ => ?_, fun _ q hq _ => w1 q hq⟩
      exfalso
      rw [σi.2] at q1
      rw [e60, e58, σi.2] at q2
      have en : ((ceW c1 : Int) - 1).toNat = ((b.i 56).toInt - 1).toNat := by omega
      have y1 := (tbw ((b.i 56).toInt - 1).toNat (by omega)).2
      have z3 := w3 (by omega)
      rw [en, y1] at q2
      omega
  have e66 : ∀ y ∈ c :: L, v.a 66 (ceT y) = s.a 66 (ceT y) := fun y _ => by rw [f66]
  have fbr : ∀ k : Nat, fBr σ0 k = fBr s k := fun k => by
    unfold fBr
    rw [σa 61 (by decide)]
  have p62 : ∀ k : Nat, ¬ s.a 62 k = s.a 66 (ceT c1) → v.a 62 k = s.a 62 k := fun k hk => by
    rw [va.2.2, rx.2.1 k (Or.inr (Or.inr (by rw [σa 62 (by decide)]; exact hk))), σa 62 (by decide)]
  have fl : ∀ f j : Nat, f = 50 ∨ f = 51 → v.a f j = s.a f j ∨ (v.a f j = 1 ∧ ∃ k : Nat, (k : Int) < (s.i 59).toInt ∧ s.a 62 k = s.a 66 (ceT c1) ∧ ¬ x2 = 0 ∧ ¬ WTS σ0 k ∧ (s.a 60 k).toInt = (j : Int) ∧ fBr s k = f) := fun f j hf => by
    have vf : v.a f = σ1.a f := by
      rcases hf with z | z <;> rw [z]
      · exact va.1
      · exact va.2.1
    rw [vf]
    rcases rx.2.2.2 f j hf with y | ⟨y1, k, y2, y3, y4, y5, y6, y7, y8⟩
    · left
      rw [y, σa f (by omega)]
    · rw [σi.1] at y3
      rw [σa 62 (by decide)] at y4
      rw [σa 60 (by decide)] at y7
      rw [fbr] at y8
      exact Or.inr ⟨y1, k, y3, y4, y5, y6, y7, y8⟩
  have jq : JMQ R v (c :: L) (b.i 59).toInt (b.i 29).toInt := by
    refine h3.rsv (W := WTS σ0) (wt := s.a 57 ((ceW c1 : Int) - 1).toNat) (x2 := x2) h18 ty ord (fun y hy z hz gy gz e0 => ?_) (fun y hy z hz e0 => inj1 y (List.mem_cons_of_mem _ hy) z (List.mem_cons_of_mem _ hz) e0) o14 wA eoL i54 i55 R52 e66 n59 f60 f61 p62 (fun k hk c0 => ?_) fl
    · have my := List.mem_cons_of_mem c1 hy
      have mz := List.mem_cons_of_mem c1 hz
      have ny := nGo1 gy
      have nz := nGo1 gz
      by_cases l1 : y.1 < z.1
      · have := (inj2 y my z mz l1).2.1
        omega
      · by_cases l2 : z.1 < y.1
        · have := (inj2 z mz y my l2).2.1
          omega
        · exact inj1 y my z mz (by omega)
    · rw [va.2.2]
      rcases rx.2.2.1 k (by omega) (by rw [σi.1]; exact hk) (by rw [σa 62 (by decide)]; exact c0) with y | ⟨y1, y2, y3⟩ | ⟨y1, y2, y3, y4⟩
      · exact Or.inl y
      · refine Or.inr (Or.inl ⟨y1, y2, ?_⟩)
        rw [y3, σa 57 (by decide), σi.2]
      · refine Or.inr (Or.inr ⟨y1, y2, y3, ?_⟩)
        rw [fbr, σa 60 (by decide)] at y4
        have f5 : fBr s k = 50 ∨ fBr s k = 51 := by
          unfold fBr
          by_cases z : s.a 61 k = 0
          · rw [if_pos z]; exact Or.inr rfl
          · rw [if_neg z]; exact Or.inl rfl
        rcases f5 with z | z
        · rw [z] at y4 ⊢
          rw [va.1]
          exact y4
        · rw [z] at y4 ⊢
          rw [va.2.1]
          exact y4
  have lb : LBC R v (c :: L) (-9) := LBC.mv (c :: L) (-9) h4.drop eoL (fun y _ _ => by rw [f46])
  have rte : RTE S R := by
    unfold RTE
    rw [i21, i54, i55, i44]
    exact ⟨Int.le_refl _, Int.le_refl _, Int.le_refl _⟩
  have cb : CBB B R := by
    obtain ⟨a1, a2, a3, a4, a5, a6, a7, a8, a9, a10, a11⟩ := h5
    refine ⟨fun k hk => by rw [Rr.1]; exact a1 k hk, fun k a hk ha => ?_, by omega, by rw [i22]; exact a4, fun k hk => by rw [Ra.2.2.1]; exact a5 k hk, by rw [i54]; exact a6, by rw [i55]; exact a7, fun k hk => ?_, fun k q1 q2 => ?_, ?_, i56.trans a11⟩
    · have z := a2 k a hk ha
      have e := Ro a (fun w => by
        rw [w] at ha
        have := h1.ri.2.1 k c1.1 c1.2.1 (by have := c1s.2.1; omega) c1s.2.1 ((a1 k hk).trans ha) c1s.1
        omega)
      exact ⟨e.trans z.1, by rw [Rr.2.1]; exact z.2⟩
    · obtain ⟨y1, y2⟩ := R52 k (by omega)
      by_cases cx : x2 = 0
      · rcases y2 cx with ⟨w1, -⟩ | ⟨-, w2⟩
        · have := w1.1
          omega
        · rw [w2]; exact a8 k hk
      · rw [y1 cx]; exact a8 k hk
    · rw [i55] at q2
      obtain ⟨y1, y2⟩ := R52 k q2
      by_cases cx : x2 = 0
      · rcases y2 cx with ⟨-, w2⟩ | ⟨-, w2⟩
        · exact Or.inl w2
        · rw [w2]; exact a9 k q1 q2
      · rw [y1 cx]; exact a9 k q1 q2
    · unfold RTE at *
      omega
  have wb : (b.i 56).toInt ≤ (ceW c1 : Int) := by
    have z := BO2.wl L c _ _ _ stl r3
    omega
  have id29 : (b.i 29).toInt ≤ (s.a 66 (ceT c1)).toInt := h3.2.2.2.2.1 c1 List.mem_cons_self ty
  have tbb : TBB b v := by
    obtain ⟨a1, a2, a3, p0, p1, p2, p3, p4, p5, p6, p7, p8, p9, p10⟩ := h7
    refine ⟨by rw [n38]; exact a1, by rw [n43]; exact a2, by omega, fun j hj => ?_, fun j hj => ?_, fun j hj => ?_, by rw [n59]; exact p3, fun j hj => ?_, by rw [n29]; exact p5, fun j hj => by rw [f30]; exact p6 j hj, by rw [n33]; exact p7, fun j hj => by rw [f34, f37]; exact p8 j hj, by rw [n24]; exact p9, fun j hj => by rw [f25, f27, f28]; exact p10 j hj⟩
    · rw [ve.2.2.1, f40, f41]
      exact p0 j hj
    · obtain ⟨y1, y2, y3, y4, y5, y6, y7, y8⟩ := p1 j hj
      have nf : ∀ f : Nat, f = 50 ∨ f = 51 → v.a f j = s.a f j := fun f hf => by
        rcases fl f j hf with y | ⟨-, k, k1, k2, -, -, k5, -⟩
        · exact y
        · exfalso
          obtain ⟨c', hc', e0⟩ := B2 k k1 k2
          have := glb c' hc'
          omega
      rw [f44, ve.2.2.1, f46, f47, nf 50 (Or.inl rfl), nf 51 (Or.inr rfl), f48, f49]
      exact ⟨y1, y2, y3, y4, y5, y6, y7, y8⟩
    · rw [f57, f58]
      exact p2 j hj
    · obtain ⟨y1, y2, y3⟩ := p4 j hj
      have w1 := hWb.2 j hj
      rw [f60, f61, p62 j (fun z => by
        rw [y3] at z
        rw [z] at w1
        omega)]
      exact ⟨y1, y2, y3⟩
  have iar : IAR R v := by
    obtain ⟨⟨a1, a2⟩, a3⟩ := h17
    unfold IAR
    rw [i56, Rr.1, n43, f44]
    refine ⟨⟨a1, a2⟩, fun z => ?_⟩
    obtain ⟨y1, y2, y3⟩ := a3 z
    exact ⟨by omega, y2, y3⟩
  have inj : ∀ y ∈ c :: L, isGo (S.o y.2.1 0) → ¬ ceG y = ceG c1 := fun y hy g z => by
    have := (inj2 y (List.mem_cons_of_mem _ hy) c1 List.mem_cons_self (ord y hy)).2.1
    have := nGo1 g
    omega
  have e5 : SSM S (c1 :: c :: L) = (nSg (S.o c1.2.1 0) : Int) + SSM S (c :: L) := rfl
  rw [e5] at hsg
  have hsw : (v.i 19).toInt = w0.toInt + SSM R (c :: L) := by
    rw [SSM.eo (c :: L) eoL, ve.1 19 (by decide) (by decide) (by decide) (by decide)]
    omega
  have hph : phI b + PDM R (c :: L) ≤ phI v := by
    rw [d2, phv]
    omega
  have cR : COR d B (RS.setI b 19 w0) t0 (c :: L) (-9) R v := by
    refine ⟨evR, stR, jq, lb, cb, ⟨?_, tbb, ⟨by rw [n20]; exact h8.1, fun j hj => by rw [f22]; exact h8.2 j hj⟩, ?_⟩, ⟨by rw [v11]; exact h10, hph, by rw [v17]; exact h12, hsw⟩, ⟨by rw [d1]; omega, fun y hy => ?_, fun y hy z hz l => ?_, ?_, fun y hy => ⟨fun t z => ?_, fun t z => ?_⟩⟩, ⟨by rw [i21, v11]; exact h14, by rw [n38, v11]; exact h15, by rw [i54, v11]; exact h16⟩, iar, h18, h19, h20, _, ((h21.drop inj).e5 ve).eo eoL⟩
    · intro j hj
      have z := h6 j hj
      rw [f64, f65, f66, f67, f68, f69, f70, f71, f72, f73, ve.2.2.1]
      exact z
    · rw [ve.1 2 (by decide) (by decide) (by decide) (by decide), ve.1 3 (by decide) (by decide) (by decide) (by decide), ve.1 8 (by decide) (by decide) (by decide) (by decide), f1, f4, ve.2.2.1]
      exact h9
    · rw [eoL y hy, i50]
      exact h13b.1 y (List.mem_cons_of_mem _ hy)
    · rw [eoL y hy, eoL z hz]
      exact h13b.2.1 y (List.mem_cons_of_mem _ hy) z (List.mem_cons_of_mem _ hz) l
    · have z := h13b.2.2.1
      have e3 : cfl S (c1 :: c :: L) (S.i 22).toInt = cfl S (c :: L) (if S.o c1.2.1 0 = 218 then (S.o c1.2.1 13).toInt else (S.i 22).toInt) := rfl
      rw [e3, if_neg n218] at z
      rw [cfl.eq (c :: L) _ eoL, i22]
      exact z
    · rw [eoL y hy] at t
      rw [f72] at z ⊢
      exact (h13b.2.2.2 y (List.mem_cons_of_mem _ hy)).1 t z
    · rw [eoL y hy] at t
      rw [f67] at z ⊢
      exact (h13b.2.2.2 y (List.mem_cons_of_mem _ hy)).2 t z
  have eoc := eoL c List.mem_cons_self
  have lwR : LOW R v c := by
    have w := lw.e5 ve
    unfold LOW at *
    rw [eoc]
    exact w
  have ng0 := nGo.eq ngo
  have tg := tp.2.1
  have l3 := lk.2.2.1
  have l2 := lk.2.1
  refine ⟨cR, ⟨R53, ?_, ?_⟩, MOD.rt lwR ?_ (v75.trans R36.symm) (by rw [R36]; exact hvv) (fun z1 z2 z3 => ?_)⟩
  · rw [n43, eoc]
    omega
  · rw [eoc]
    omega
  · rw [v63, eoc]
    omega
  · rw [eoc] at z1 z2 z3 ⊢
    rw [i50, o50]
    exact lk.2.2.2.2.2.2.2.1 z1 z2 z3
end
section
/-! both readers: between a try's blocks -/
/-- an entry less, a catch's: the names outside -/
theorem NMH.pop2 {nm : Nat → Nat → Prop} {e : Ent} {c : List Ent} {S R : CS} {s u : RS} (ng : NMG nm (e :: c) S s) (l38 : (u.i 38).toInt ≤ (s.i 38).toInt) (nb : e.k = 2 → ∀ k : Nat, (k : Int) < (u.i 38).toInt → ¬ (s.a 40 k).toInt = (e.w : Int)) (a48 : R.a 48 = S.a 48) (a49 : R.a 49 = S.a 49) (a40 : u.a 40 = s.a 40) (d38 : (S.i 38).toInt = (R.i 38).toInt + (if e.k ≤ 3 then 1 else 0)) (d52 : (s.i 52).toInt = (u.i 52).toInt + 1) (i23 : R.i 23 = S.i 23) (i42 : u.i 42 = s.i 42) (i20 : u.i 20 = s.i 20) : NMH nm c R u := by
  have e2 : frs (e :: c) = frs c + (if e.k ≤ 3 then 1 else 0) := rfl
  obtain ⟨n1, n2, n3, -, n4⟩ := ng
  refine ⟨fun k hk => ?_, ?_, ?_, ?_, fun e' he => ?_⟩
  · have hk' : (k : Int) < (s.i 38).toInt := by omega
    rw [a48, a49, a40]
    refine ⟨(n1 k hk').1, fun z => ?_⟩
    obtain ⟨c1, e', c0, h1, h2, h3, h4, h5⟩ := (n1 k hk').2 z
    cases c1 with
    | nil =>
      have h1' : e :: c = e' :: c0 := h1
      cases h1'
      exact absurd h4 (nb h2 k hk)
    | cons x c1 =>
      have h1' : e :: c = x :: (c1 ++ e' :: c0) := h1
      cases h1'
      exact ⟨c1, e', c0, rfl, h2, h3, h4, h5⟩
  · rw [e2] at n2
    split at n2 <;> split at d38 <;> omega
  · have : (e :: c).length = c.length + 1 := rfl
    omega
  · have z := n4.1
    unfold SLO at z ⊢
    rw [i42, i20]
    exact z
  · have z := n4.2 e' (List.mem_cons_of_mem _ he)
    rw [i23, i42]
    exact z
theorem vw_s {S : CS} {s : RS} {c : CEL} {k : Nat} (h : (k : Int) < (S.o c.2.1 3).toInt) : (vw S s c).2.1 (1000 + k) = s.a 40 k := by
  show (if 66 ≤ 1000 + k ∧ 1000 + k ≤ 73 then s.a (1000 + k) (ceT c) else if 1000 ≤ 1000 + k ∧ ((1000 + k : Nat) : Int) - 1000 < (S.o c.2.1 3).toInt then s.a 40 (1000 + k - 1000) else 0) = _
  rw [if_neg (by omega), if_pos (by omega), Nat.add_sub_cancel_left]
theorem em_s38 {N : Nat} {s : RS} {o x E : Int32} {V : Int32 × RS} (hz : f_X12_emit N s o x = some V) : f_X12_emit N (RS.setI s 38 E) o x = some (V.1, RS.setI V.2 38 E) := by
  unfold f_X12_emit f_X12_emit_21 at hz ⊢
  by_cases c : (3000 : Int32) ≤ s.i 20
  · rw [if_pos c] at hz
    rw [if_pos (show (3000 : Int32) ≤ (RS.setI s 38 E).i 20 from c)]
    obtain ⟨hib, hz⟩ := hf_ite hz
    rw [if_pos hib]
    cases hz
    exact congrArg (fun z => some ((2999 : Int32), z)) (rsI_cm (s := RS.setA (RS.setA (RS.setA s 21 ((2999 : Int32).toNatClampNeg) o) 22 ((2999 : Int32).toNatClampNeg) x) 23 ((2999 : Int32).toNatClampNeg) 0) (k := 38) (l := 20) (v := E) (w := 2999 + 1) (by decide))
  · rw [if_neg c] at hz
    rw [if_neg (show ¬ (3000 : Int32) ≤ (RS.setI s 38 E).i 20 from c)]
    obtain ⟨hib, hz⟩ := hf_ite hz
    rw [if_pos (show ib ((RS.setI s 38 E).i 20) 3000 from hib)]
    cases hz
    exact congrArg (fun z => some (s.i 20, z)) (rsI_cm (s := RS.setA (RS.setA (RS.setA s 21 ((s.i 20).toNatClampNeg) o) 22 ((s.i 20).toNatClampNeg) x) 23 ((s.i 20).toNatClampNeg) 0) (k := 38) (l := 20) (v := E) (w := s.i 20 + 1) (by decide))
theorem HFN.up {s0 : CS} {r0 : RS} {A : Als} {e : Ent} {c : List Ent} {W W' : Nat} (l : W ≤ W') (h : HFN s0 r0 A e c W) : HFN s0 r0 A e c W' := by
  rcases h with h | ⟨p, q, w, h1, h2, h3, h4, h5⟩
  · exact Or.inl h
  · exact Or.inr ⟨p, q, w, h1, h2, h3, h4, by omega⟩
/-- a try, as its handlers see it -/
def ty5 (r : RVW) (ω : Nat) (j : JCT) : Ent := (1, j.h, (r.1 9).toNatClampNeg - 2, (r.2.1 66).toNatClampNeg, 0, 0, ω + j.l)
/-- its exit, if one of its blocks ends -/
def K5E (U : RS) (r : RVW) (FC : Nat → Prop) (SF : CS) (nm : Nat → Nat → Prop) (X : Als) (ω : Nat) (j : JCT) : Prop := r.1 6 = 1 → (U.a 31 (r.2.1 66).toNatClampNeg).toInt < 0 ∨ FC (r.2.1 66).toNatClampNeg → ∃ p q : Nat, (cTg SF (r.1 9)).toInt = (p : Int) ∧ (U.a 32 (r.2.1 66).toNatClampNeg).toInt = (q : Int) ∧ GU FC SF U nm X p q j.h (ω + j.l - p) 0 j.c
/-- what is known between a try's blocks: the next handler at p0, m places of handlers used up -/
def K5 (U : RS) (r : RVW) (x : Int32) (p0 m : Nat) : JKT := fun FC SF nm X ω j Z => (∃ n : Nat, n + m ≤ 300 ∧ HRW SF U (GU FC SF U nm X) (ty5 r ω j) j.c (ω + (j.l + 1265) - (p0 + 2)) n p0 (khd U r)) → HFN SF U (GU FC SF U nm X) (ty5 r ω j) j.c (ω + (j.l + 1265) - (p0 + 2)) → K5E U r FC SF nm X ω j → (0 ≤ (r.2.1 72).toInt → U.a 30 (r.2.1 66).toNatClampNeg = x) → Z
/-- between a try's blocks -/
def JR5 (A : JBA) (U : RS) (B : CS) (b : RS) (V : List RVW) (r : RVW) (S : CS) (s : RS) : Prop := CRQB B → ∃ (m : Nat) (s0 : RS), ((s.a 31 (r.2.1 66).toNatClampNeg).toInt < 0 ∧ (SLO b → (s.i 42).toInt + 1 ≤ (s.i 20).toInt + 8)) ∧ (m = 0 ∨ 3 * (m : Int) + 3 ≤ (s.i 11).toInt) ∧ ((s.i 43 = s0.i 43 ∧ s.i 59 = s0.i 59 ∧ ∀ k : Nat, (k = 47 ∨ k = 48 ∨ k = 49 ∨ k = 50 ∨ k = 51 ∨ k = 60 ∨ k = 61 ∨ k = 62) → s.a k = s0.a k) ∧ (s0.i 19).toInt ≤ (s.i 19).toInt ∧ (s0.i 11).toInt ≤ (s.i 11).toInt) ∧ JRG A U B b V s0 [r] (K5 U r (s.a 30 (r.2.1 66).toNatClampNeg) (pcC S) m) (-1) 0 (CS.setI S 38 (S.i 38 - 1)) (RS.setI s 52 (s.i 52 - 1))
/-- a try between its blocks on top, or any other row -/
def JRX (A : JBA) (U : RS) (B : CS) (b : RS) (V : List RVW) (S : CS) (s : RS) : Prop := (∀ (r : RVW) (V' : List RVW), V = r :: V' → r.v = 305 → JR5 A U B b V' r S s) ∧ ((∀ (r : RVW) (V' : List RVW), V = r :: V' → ¬ r.v = 305) → JRW A U B b V S s)
section
variable {FC : Nat → Prop} {SF : CS} {U : RS} {nm : Nat → Nat → Prop} {X : Als} {ω : Nat} {j : JCT} {Z : Prop} {S : CS} {s : RS} {r r5 : RVW} {g : Nat × Nat × List (Int32 × Nat)} {m : Nat} {x : Int32}
set_option maxHeartbeats 1000000 in
theorem k5_of (k : KTY U r g S s FC SF nm X ω j Z) (ty : r.v = 213 ∨ r.v = 215) (h5 : r5.1 9 = r.1 9 ∧ r5.2.1 66 = r.2.1 66 ∧ r5.2.1 72 = r.2.1 72) (h6 : (r.1 6 = 1 → r5.1 6 = 1) ∧ (S.i 36 = 1 → r5.1 6 = 1)) (pq : PQX SF U (pcC S) (pcR s)) (c15 : SF.a 15 (pcC S) = 60) (c16 : SF.a 16 (pcC S) = r.1 9 * 32 + r.1 2) (cop : (r.v = 213 → U.a 21 (pcR s) = 33) ∧ (r.v = 215 → U.a 21 (pcR s) = 34)) (ct : (cTg SF (r.1 10)).toInt = ((pcC S + 1 : Nat) : Int)) (hm : r.v = 215 → g.2.2.length ≤ m ∧ ∀ z ∈ g.2.2, z.2 ≤ pcC S + 1) (tyc : TYC SF U (GU FC SF U nm X) (ω + j.t) j.c) (tl : j.t ≤ j.l) (hω : 1300 ≤ ω) (gx : r.v = 215 → ∀ z ∈ g.2.2, x = z.1) : K5 U r5 x (pcC S + 1) m FC SF nm X ω j Z := by
  intro hrow hfn hex h30
  obtain ⟨n, hn, hrw⟩ := hrow
  obtain ⟨⟨d2, d9, t3⟩, hci, hX⟩ := k
  have p12 := pq.1
  have et : ty5 r5 ω j = ty5 r ω j := by
    unfold ty5
    rw [h5.1, h5.2.1]
  have ek : khd U r5 = khd U r := by
    unfold khd
    rw [h5.2.1, h5.2.2]
  unfold K5E at hex
  rw [h5.1, h5.2.1] at hex
  rw [et, ek] at hrw
  rw [et] at hfn
  obtain ⟨W5, hW⟩ : ∃ W5 : Nat, W5 = ω + (j.l + 1265) - (pcC S + 1 + 2) := ⟨_, rfl⟩
  rw [← hW] at hrw hfn
  have jl : jlv r.v = 1265 := by rcases ty with z | z <;> rw [z] <;> rfl
  have o9 : (((r.1 9).toNatClampNeg : Nat) : Int) = (r.1 9).toInt := clampI (by have := t3.1; have := t3.2.1; omega)
  have hxt : ∀ e : Ent, e.h = j.h → e.x = (r.1 9).toNatClampNeg - 2 → e.y = (r.2.1 66).toNatClampNeg → e.u = ω + j.l → (∃ e0 ∈ jen (fun _ => g) ω r j.h j.l, e0 = e) → S.i 36 = 1 → XIF FC SF U (GU FC SF U nm X) (SF.a 16 (pcC S)) j.h W5 e j.c := fun e eh ex ey eu _ h1 => by
    obtain ⟨l5, l6⟩ := lv5 d9 (g := r.1 2) ⟨by omega, by
      have f22 := hci.2.2.1
      rw [frs.app] at f22
      omega⟩
    have q6 := h6.2 h1
    rw [c16]
    refine ⟨⟨by rw [l6]; exact d2, by rw [l5, ex]; have := t3.1; have := t3.2.1; omega⟩, fun z => ?_, fun z => ?_⟩
    · rw [ey] at z
      obtain ⟨p, q, y1, y2, y3⟩ := hex q6 (Or.inl z)
      exact ⟨p, q, _, by rw [l5]; exact y1, by rw [ey]; exact y2, y3, by omega⟩
    · rw [ey] at z
      obtain ⟨p, q, y1, y2, y3⟩ := hex q6 (Or.inr z)
      exact ⟨p, q, _, by rw [l5]; exact y1, by rw [ey]; exact y2, by rw [eh]; exact y3, by rw [eu]; omega⟩
  have hexr : r.1 6 = 1 → (U.a 31 (r.2.1 66).toNatClampNeg).toInt < 0 ∨ FC (r.2.1 66).toNatClampNeg → ∃ p q : Nat, (cTg SF (r.1 9)).toInt = (p : Int) ∧ (U.a 32 (r.2.1 66).toNatClampNeg).toInt = (q : Int) ∧ GU FC SF U nm X p q j.h (ω + j.l - p) 0 j.c := fun z y => hex (h6.1 z) y
  rcases ty with hv | hv
  · have en : jen (fun _ => g) ω r j.h j.l = [(1, j.h, (r.1 9).toNatClampNeg - 2, (r.2.1 66).toNatClampNeg, g.1, 0, ω + j.l)] := by
      unfold jen
      rw [hv, if_neg (by decide), if_pos rfl]
      rfl
    have k30 : khd U r = U.a 30 (r.2.1 66).toNatClampNeg := if_pos (t3.2.2.2.1 hv)
    rw [k30] at hrw
    obtain ⟨e, he⟩ : ∃ e : Ent, e = (1, j.h, (r.1 9).toNatClampNeg - 2, (r.2.1 66).toNatClampNeg, g.1, 0, ω + j.l) := ⟨_, rfl⟩
    rw [← he] at en
    have ek1 : e.k = 1 := by rw [he]; rfl
    have eh : e.h = j.h := by rw [he]; rfl
    have ex : e.x = (r.1 9).toNatClampNeg - 2 := by rw [he]; rfl
    have ey : e.y = (r.2.1 66).toNatClampNeg := by rw [he]; rfl
    have eu : e.u = ω + j.l := by rw [he]; rfl
    have hf : HFN SF U (GU FC SF U nm X) e j.c W5 := by rw [he]; exact hfn
    clear he
    have hb : HBD SF U (GU FC SF U nm X) e j.c W5 := ⟨n, pcC S + 1, by omega, fun a ha => by
      have z := t3.2.2.1 hv
      have : a = r.1 10 := Int32.toInt_inj.mp (by rw [ha, ex]; have := t3.1; have := t3.2.1; omega)
      rw [this]
      exact ct, by
      rw [ey]
      exact HRW.zz (e := ty5 r ω j) eh ex ey eu n _ _ hrw⟩
    refine hX ⟨fun e0 he0 => ?_, hexr, fun z => absurd (hv.symm.trans z) (by decide), fun z => absurd (hv.symm.trans z) (by decide), fun z => z.elim (fun z => absurd (hv.symm.trans z) (by decide)) (fun z => absurd (hv.symm.trans z) (by decide))⟩ (fun h1 => ?_)
    · rw [en] at he0
      rw [List.mem_singleton.mp he0, jl]
      obtain ⟨n', p', b1, b2, b3⟩ := hb
      exact ⟨fun _ => ⟨n', p', b1, b2, HRW.up (by omega) n' p' _ b3⟩, fun _ => hf.up (by omega)⟩
    · rw [en, jl]
      rw [en] at hci
      have zz : ∀ g' : Nat, GU FC SF U nm X (pcC S) (pcR s) j.h (ω + (j.l + 1265) - pcC S) g' ([e] ++ j.c) := fun g' => gi_VEnb (pq.hc hci) pq.2.1 ⟨c15, cop.1 hv, e, j.c, W5, W5, rfl, ek1, ⟨fun _ => hb, fun _ => hf, TYC.up (by omega) tyc⟩, Nat.le_refl _, by omega, hxt e eh ex ey eu ⟨e, by rw [en]; exact List.mem_singleton_self e, rfl⟩ h1⟩
      exact ⟨zz 0, zz 1⟩
  · have en : jen (fun _ => g) ω r j.h j.l = [(2, j.h, (r.1 9).toNatClampNeg - 2, (r.2.1 66).toNatClampNeg, g.1, g.2.1, ω + j.l)] := by
      unfold jen
      rw [hv, if_neg (by decide), if_neg (by decide), if_pos rfl]
      rfl
    have k37 : khd U r = U.a 37 (r.2.1 72).toNatClampNeg := if_neg (by have := t3.2.2.2.2 hv; omega)
    rw [k37] at hrw
    obtain ⟨e, he⟩ : ∃ e : Ent, e = (2, j.h, (r.1 9).toNatClampNeg - 2, (r.2.1 66).toNatClampNeg, g.1, g.2.1, ω + j.l) := ⟨_, rfl⟩
    rw [← he] at en
    have ek1 : e.k = 2 := by rw [he]; rfl
    have eh : e.h = j.h := by rw [he]; rfl
    have ex : e.x = (r.1 9).toNatClampNeg - 2 := by rw [he]; rfl
    have ey : e.y = (r.2.1 66).toNatClampNeg := by rw [he]; rfl
    have eu : e.u = ω + j.l := by rw [he]; rfl
    have hf : HFN SF U (GU FC SF U nm X) e j.c W5 := by rw [he]; exact hfn
    clear he
    have hm' := hm hv
    refine hX ⟨fun e0 he0 => ?_, hexr, fun _ e0 he0 => ?_, fun z => absurd (hv.symm.trans z) (by decide), fun _ z hz => ?_⟩ (fun h1 => ?_)
    · rw [en] at he0
      rw [List.mem_singleton.mp he0, jl]
      exact ⟨fun z => absurd (ek1.symm.trans z) (by decide), fun _ => hf.up (by omega)⟩
    · rw [en] at he0
      rw [List.mem_singleton.mp he0]
      exact ⟨n, pcC S + 1, ⟨show n + g.2.2.length ≤ 300 by have := hm'.1; omega, hm'.2⟩, ct, by rw [← hW]; exact HRW.zz (e := ty5 r ω j) eh ex ey eu n _ _ hrw, by rw [← hW]; exact hf⟩
    · rw [h5.2.1, h5.2.2] at h30
      rw [h30 (t3.2.2.2.2 hv)]
      exact gx hv z hz
    · rw [en, jl]
      rw [en] at hci
      have zz : ∀ g' : Nat, GU FC SF U nm X (pcC S) (pcR s) j.h (ω + (j.l + 1265) - pcC S) g' ([e] ++ j.c) := fun g' => gi_VEnc (pq.hc hci) pq.2.1 ⟨c15, cop.2 hv, e, j.c, W5, W5, rfl, ek1, hf, Nat.le_refl _, by omega, hxt e eh ex ey eu ⟨e, by rw [en]; exact List.mem_singleton_self e, rfl⟩ h1⟩
      exact ⟨zz 0, zz 1⟩
end
end
section
/-! both readers: a try goes -/
/-- what waits at a try that goes: it waits at the next wall, or arrives, or never arrives -/
theorem JSI.rsv {Ψ Ψ' : GPS} {V : List RVW} {r6 : RVW} {col : Nat → Option (Nat × Bool)} {YJ : Nat → List Nat} {b s0 u σ0 σ1 : RS} {x2 : Int32} {y : Nat} (h : JSI Ψ (r6 :: V) col YJ b s0) (t6 : isTyv r6) (nd : ∀ q ∈ V, isTyv q → ¬ q.2.1 66 = r6.2.1 66) (pl : ∀ q ∈ V, q.2.2.1 < r6.2.2.1) (y66 : (r6.2.1 66).toInt = (y : Int) ∧ (b.i 29).toInt ≤ (y : Int) ∧ (y : Int) < (u.i 29).toInt) (e0 : σ0.i 59 = s0.i 59 ∧ ∀ k : Nat, (k = 47 ∨ k = 48 ∨ k = 49 ∨ k = 50 ∨ k = 51 ∨ k = 60 ∨ k = 61 ∨ k = 62) → σ0.a k = s0.a k) (rx : RSX (r6.2.1 66) x2 0 σ0 σ1) (eu : u.i 43 = s0.i 43 ∧ u.i 59 = s0.i 59 ∧ ∀ k : Nat, (k = 47 ∨ k = 48 ∨ k = 49 ∨ k = 50 ∨ k = 51 ∨ k = 60 ∨ k = 61 ∨ k = 62) → u.a k = σ1.a k) (l20 : (s0.i 20).toInt ≤ (u.i 20).toInt) (l29 : (s0.i 29).toInt ≤ (u.i 29).toInt) (a22 : ∀ j : Nat, ¬ col j = none → u.a 22 j = s0.a 22 j) (a31 : ∀ z : Nat, (z : Int) < (s0.i 29).toInt → ¬ PTY (r6 :: V) z → u.a 31 z = s0.a 31 z) (ps : ∀ (FC : Nat → Prop) (nm : Nat → Nat → Prop), Ψ' FC nm → Ψ FC nm) (wts : ∀ i : Nat, WTS σ0 i → ∀ r ∈ V, isGo r.v → (σ0.a 60 i).toInt = ((r.2.2.2 : Nat) : Int) → ∃ r3 ∈ V, isTyv r3 ∧ isWl r3.v ∧ σ0.a 57 ((σ0.i 56).toInt - 1).toNat = r3.2.1 66 ∧ r.2.2.1 < r3.2.2.1) (lost : x2 = 0 → 0 ≤ (u.a 31 y).toInt ∧ ∀ (FC : Nat → Prop) (nm : Nat → Nat → Prop), Ψ' FC nm → ¬ FC y) : JSI Ψ' V col YJ b u := by
  obtain ⟨h1, h2, h3, h4⟩ := h
  obtain ⟨⟨r1, r2, r3', r4⟩, r5, r6x, r7⟩ := rx
  have cy : (r6.2.1 66).toNatClampNeg = y := by
    have := clampI (show 0 ≤ (r6.2.1 66).toInt by omega)
    omega
  have ngo6 : ¬ isGo r6.v := tyv.go t6
  have ua : ∀ k : Nat, (k = 47 ∨ k = 48 ∨ k = 49 ∨ k = 50 ∨ k = 51 ∨ k = 60 ∨ k = 61 ∨ k = 62) → k ≠ 50 → k ≠ 51 → k ≠ 62 → u.a k = s0.a k := fun k k1 k3 k4 k5 => by
    rw [eu.2.2 k k1, r4 k k3 k4 k5, e0.2 k k1]
  have nn : ∀ (j : Nat) (x : Nat × Bool), col j = some x → ¬ col j = none := fun j x e z => by
    rw [z] at e
    cases e
  have npt : ¬ PTY V y := fun ⟨q, hq, q1, q2⟩ => nd q hq q1 (Int32.toInt_inj.mp (by omega))
  have fl1 : ∀ (g : Nat) (k : Bool), jfl s0 g k = 1 → jfl u g k = 1 := fun g k z => by
    unfold jfl at z ⊢
    cases k with
    | true =>
      have z' : s0.a 50 g = 1 := z
      show u.a 50 g = 1
      rw [eu.2.2 50 (by decide)]
      rcases r7 50 g (Or.inl rfl) with w | w
      · rw [w, e0.2 50 (by decide)]
        exact z'
      · exact w.1
    | false =>
      have z' : s0.a 51 g = 1 := z
      show u.a 51 g = 1
      rw [eu.2.2 51 (by decide)]
      rcases r7 51 g (Or.inr rfl) with w | w
      · rw [w, e0.2 51 (by decide)]
        exact z'
      · exact w.1
  refine ⟨fun r hr go => ?_, fun j g k hc => ?_, fun r hr => h3 r (List.mem_cons_of_mem _ hr), h4.2⟩
  · obtain ⟨z0, l1, l2, z1, z2, z3⟩ := h1 r (List.mem_cons_of_mem _ hr) go
    refine ⟨by rw [eu.1]; exact z0, l1, l2, ?_, ?_, z3⟩
    · rw [ua 48 (by decide) (by decide) (by decide) (by decide)]
      exact lks.mv l1 _ z1 (fun j hj => a22 j (nn j _ ((z3 j).1.mpr hj)))
    · rw [ua 49 (by decide) (by decide) (by decide) (by decide)]
      exact lks.mv l2 _ z2 (fun j hj => a22 j (nn j _ ((z3 j).2.mpr hj)))
  · obtain ⟨⟨z1, z2⟩, r, hr, go, eg, z3⟩ := h2 j g k hc
    have hr' : r ∈ V := (List.mem_cons.mp hr).resolve_left (fun z => by rw [z] at go; exact ngo6 go.1)
    refine ⟨⟨z1, by omega⟩, r, hr', go, eg, ?_⟩
    rcases z3 with z3 | ⟨i, i1, i2, i3, q, hq, i4, i5, i6, i7, i8⟩ | ⟨w, hw, w1, w2, w3, w4⟩
    · exact Or.inl (fl1 g k z3)
    · have a60 : u.a 60 i = s0.a 60 i := by rw [ua 60 (by decide) (by decide) (by decide) (by decide)]
      have a61 : u.a 61 i = s0.a 61 i := by rw [ua 61 (by decide) (by decide) (by decide) (by decide)]
      rcases List.mem_cons.mp hq with hq6 | hqV
      · -- it waited here
        rw [hq6] at i5 i6 i7 i8
        have i6' : σ0.a 62 i = r6.2.1 66 := by rw [e0.2 62 (by decide)]; exact i6
        rcases r6x i (by omega) (by rw [e0.1]; exact i1) i6' with ⟨m1, m2⟩ | ⟨m1, m2, m3⟩ | ⟨m1, m2, m3, m4⟩
        · obtain ⟨l1, l2⟩ := lost m1
          rw [cy] at i7
          exact Or.inr (Or.inr ⟨y, i7, y66.2, npt, l1, l2⟩)
        · obtain ⟨q3, hq3, t1, t2, t3, t4⟩ := wts i m2 r hr' go.1 (by rw [e0.2 60 (by decide), eg]; exact i2)
          have l3 : r.2.2.1 < q3.2.2.1 := t4
          have l6 := pl q3 hq3
          refine Or.inr (Or.inl ⟨i, by rw [eu.2.1]; exact i1, by rw [a60]; exact i2, by rw [a61]; exact i3, q3, hq3, t1, l3, by rw [eu.2.2 62 (by decide), m3]; exact t3, i8 q3 (List.mem_cons_of_mem _ hq3) t2 l3 l6, fun q2 hq2 n1 n2 n3 => i8 q2 (List.mem_cons_of_mem _ hq2) n1 n2 (by omega)⟩)
        · refine Or.inl ?_
          have gn : (σ0.a 60 i).toInt.toNat = g := by
            rw [e0.2 60 (by decide), i2]
            rfl
          rw [gn] at m4
          unfold fBr at m4
          rw [e0.2 61 (by decide)] at m4
          unfold jfl
          cases k with
          | true =>
            rw [if_neg (i3.mpr rfl)] at m4
            show u.a 50 g = 1
            rw [eu.2.2 50 (by decide)]
            exact m4
          | false =>
            rw [if_pos (Classical.byContradiction (fun z => by
              have := i3.mp z
              cases this))] at m4
            show u.a 51 g = 1
            rw [eu.2.2 51 (by decide)]
            exact m4
      · -- elsewhere
        have n6 : ¬ σ0.a 62 i = r6.2.1 66 := fun z => by
          rw [e0.2 62 (by decide), i6] at z
          exact nd q hqV i4 z
        exact Or.inr (Or.inl ⟨i, by rw [eu.2.1]; exact i1, by rw [a60]; exact i2, by rw [a61]; exact i3, q, hqV, i4, i5, by rw [eu.2.2 62 (by decide), r5 i (Or.inr (Or.inr n6)), e0.2 62 (by decide)]; exact i6, i7, fun q2 hq2 => i8 q2 (List.mem_cons_of_mem _ hq2)⟩)
    · exact Or.inr (Or.inr ⟨w, hw, ⟨w1.1, by omega⟩, fun ⟨q, hq, p⟩ => w2 ⟨q, List.mem_cons_of_mem _ hq, p⟩, by rw [a31 w w1.2 w2]; exact w3, fun FC nm q => w4 FC nm (ps FC nm q)⟩)
section
variable {A : JBA} {U : RS} {B : CS} {b : RS} {V0 W : List RVW} {s0 : RS} {K K' : JKT} {a e : Int} {S : CS} {s : RS}
/-- a target that is never aimed -/
theorem JRG.ded {x : Int32} (h : JRG A U B b V0 s0 (tv x :: W) K a e S s) {r6 : RVW} (h6 : r6 ∈ W ∧ isTyv r6 ∧ ¬ r6.2.2.1 = 0 ∧ r6.1 11 = x ∧ r6.1 9 ∈ ptl (W ++ V0)) (h44 : (S.i 44).toInt ≤ 900) (he : e ≤ 100) (hK : ∀ (FC : Nat → Prop) (SF : CS) (nm : Nat → Nat → Prop) (X : Als) (ω : Nat) (j : JCT) (Z : Prop), (cTg SF x).toInt < 0 → TGT3 r6 → K FC SF nm X ω j Z → K' FC SF nm X ω j Z) : JRG A U B b V0 s0 W K' a e S s := by
  intro crB
  obtain ⟨b1, b2, b3, b4, Ψ, G, col, YJ, sax, ⟨pin, pin0⟩, tgi, jsi, main⟩ := h crB
  obtain ⟨-, -, r3, -⟩ := crB.rms b1
  have b0 := crB.1.1.2.1
  have tg : ptl ((tv x :: W) ++ V0) = x :: ptl (W ++ V0) := by
    show rtgs (tv x) ++ ptl (W ++ V0) = _
    rw [tv.tgs]
    rfl
  have pc : ∀ {k : Nat}, PEN (W ++ V0) col k → PEN ((tv x :: W) ++ V0) col k := fun {k} p => by
    rcases p with p | ⟨q, hq, p⟩
    · exact Or.inl p
    · exact Or.inr ⟨q, List.mem_cons_of_mem _ hq, p⟩
  obtain ⟨t1, t2⟩ := tgi
  rw [tg] at t1 t2
  obtain ⟨x1, x2, x3⟩ := t2 x List.mem_cons_self
  have t1' := List.nodup_cons.mp t1
  refine ⟨b1, b2, b3, b4, Ψ, G, col, YJ, SAX.mo (fun k ⟨q, hq, p⟩ => ⟨q, List.mem_cons_of_mem _ hq, p⟩) (fun k ⟨q, hq, p⟩ => ⟨q, List.mem_cons_of_mem _ hq, p⟩) sax, ⟨⟨fun k q => pin.1 k (pc q), fun k ⟨q, hq, p⟩ => pin.2.1 k ⟨q, List.mem_cons_of_mem _ hq, p⟩, fun k ⟨q, hq, p⟩ => pin.2.2.1 k ⟨q, List.mem_cons_of_mem _ hq, p⟩, fun k ⟨q, hq, p⟩ => pin.2.2.2 k ⟨q, List.mem_cons_of_mem _ hq, p⟩⟩, pin0⟩, ⟨t1'.2, fun z hz => t2 z (List.mem_cons_of_mem _ hz)⟩, ⟨jsi.1.mv (tv.rj x W).symm (fun r hr => Or.inl (List.mem_cons_of_mem _ hr)) b4 (KD2.rf _ _) (fun _ _ q => q), jsi.2.1, fun r hr => jsi.2.2.1 r (List.mem_cons_of_mem _ hr), jsi.2.2.2⟩, ?_⟩
  intro FC SF nm X h0 ω c0 psi ng0 hc0 hh0 hω
  obtain ⟨⟨ng, hc, hh, wn⟩, mn⟩ := main FC SF nm X h0 ω c0 psi ng0 hc0 hh0 hω
  refine ⟨⟨ng, hc, hh, wn.mv (Int.le_refl _) (fun r hr _ => List.mem_cons_of_mem _ hr)⟩, fun fc fg hA tyc jr => hK FC SF nm X ω _ _ ?_ ((wn.1 r6 (List.mem_cons_of_mem _ h6.1) (Or.inr ⟨h6.2.1, h6.2.2.1⟩)).2 h6.2.1).2.2 (mn (fc.pl (fun y hy => by rw [tg]; exact List.mem_cons_of_mem _ hy)) (fg.st (fun k q => pc q) (fun k ⟨q, hq, p⟩ => ⟨q, List.mem_cons_of_mem _ hq, p⟩) (fun k ⟨q, hq, p⟩ => ⟨q, List.mem_cons_of_mem _ hq, p⟩) (fun k ⟨q, hq, p⟩ => ⟨q, List.mem_cons_of_mem _ hq, p⟩) (fun k ⟨q, hq, p⟩ => ⟨q, List.mem_cons_of_mem _ hq, p⟩)) hA tyc jr)⟩
  have lx : x.toInt + 1 < (S.i 21).toInt := by
    obtain ⟨-, -, t3⟩ := (wn.1 r6 (List.mem_cons_of_mem _ h6.1) (Or.inr ⟨h6.2.1, h6.2.2.1⟩)).2 h6.2.1
    have z1 := t3.1
    have z2 := (t2 _ (List.mem_cons_of_mem _ h6.2.2.2.2)).2.1
    rw [h6.2.2.2.1] at z1
    omega
  have ckx := clampI (show 0 ≤ x.toInt by omega)
  have sf := fc.2.2 x.toNatClampNeg (by omega) (by omega) (Or.inr ⟨by omega, fun y hy z => t1'.1 (by
    have : y = x := Int32.toInt_inj.mp (by omega)
    rw [← this]
    exact hy)⟩)
  unfold cTg gAt
  rw [if_pos (show ib x 1024 from ⟨by omega, by omega⟩)]
  show (SF.a 17 x.toNatClampNeg).toInt < 0
  rw [sf, x3]
  decide
/-- a try's row under another sort -/
theorem JRG.rl5 {r5 r6 : RVW} {tl : List Int32} (h : JRG A U B b V0 s0 [r5] K a e S s) (t5 : isTyv r5) (t6 : isTyv r6) (p5 : ¬ r5.2.2.1 = 0) (wl : isWl r6.v → isWl r5.v) (nv : ¬ r6.v = 213 ∧ ¬ r6.v = 215) (e2 : r6.2.2 = r5.2.2 ∧ r6.2.1 66 = r5.2.1 66 ∧ r6.2.1 72 = r5.2.1 72 ∧ r6.1 2 = r5.1 2 ∧ r6.1 9 = r5.1 9 ∧ r6.1 11 = r5.1 11) (etl : rtgs r5 = tl ++ rtgs r6) : JRG A U B b V0 s0 (tvs tl ++ [r6]) K a e S s := by
  intro crB
  obtain ⟨b1, b2, b3, b4, Ψ, G, col, YJ, sax, ⟨pin, pin0⟩, tgi, ⟨jsj, bD, hds⟩, main⟩ := h crB
  obtain ⟨e22, e66, e72, eo2, eo9, eo11⟩ := e2
  have p6 : ¬ r6.2.2.1 = 0 := by rw [e22]; exact p5
  have erj5 : rjw [r5] = [r5] := rjw.y ⟨show isTy r5.v from t5, p5⟩
  have erj : rjw (tvs tl ++ [r6]) = [r6] := (tvs.rjw tl [r6]).trans (rjw.y ⟨show isTy r6.v from t6, p6⟩)
  have nvs : ∀ v : Int32, ¬ (v = 213 ∨ v = 215 ∨ v = 305 ∨ v = 216) → ¬ r6.v = v := fun v hv q => hv (by rw [← q]; exact t6)
  have mm : ∀ q : RVW, q ∈ tvs tl ++ [r6] → (∃ x : Int32, q = tv x) ∨ q = r6 := fun q hq => by
    rcases List.mem_append.mp hq with z | z
    · exact Or.inl (tvs.mem _ z)
    · exact Or.inr (List.mem_singleton.mp z)
  have mt : ∀ {P : RVW → Prop}, (∀ x : Int32, ¬ P (tv x)) → (P r6 → P r5) → (∃ q ∈ tvs tl ++ [r6] ++ V0, P q) → ∃ q ∈ [r5] ++ V0, P q := fun {P} hP hr ⟨q, hq, p⟩ => by
    rcases List.mem_append.mp hq with z | z
    · rcases mm q z with ⟨x, e⟩ | e
      · rw [e] at p
        exact absurd p (hP x)
      · rw [e] at p
        exact ⟨r5, List.mem_cons_self, hr p⟩
    · exact ⟨q, List.mem_append_right _ z, p⟩
  have pe' : ∀ k : Nat, PEN (tvs tl ++ [r6] ++ V0) col k → PEN ([r5] ++ V0) col k := fun k p => by
    rcases p with p | p
    · exact Or.inl p
    · exact Or.inr (mt (P := fun q => rsite q k) (fun x => tv.site) (fun z => absurd z (tyv.site t6)) p)
  have nv' : ¬ (r6.v = 218 ∨ r6.v = 995) := fun z => z.elim (nvs _ (by decide)) (nvs _ (by decide))
  have ph' : ∀ k : Nat, PCH (tvs tl ++ [r6] ++ V0) k → PCH ([r5] ++ V0) k := fun k p => mt (P := fun q => (q.v = 218 ∨ q.v = 995) ∧ (k : Int) = (q.2.1 66).toInt) (fun x z => absurd z.1 (by rw [tv.v]; decide)) (fun z => absurd z.1 nv') p
  have pz' : ∀ k : Nat, PCZ (tvs tl ++ [r6] ++ V0) k → PCZ ([r5] ++ V0) k := fun k p => mt (P := fun q => q.v = 218 ∧ (k : Int) = (q.2.1 67).toInt) (fun x z => absurd z.1 (by rw [tv.v]; decide)) (fun z => absurd (Or.inl z.1) nv') p
  have py' : ∀ k : Nat, PTY (tvs tl ++ [r6] ++ V0) k → PTY ([r5] ++ V0) k := fun k p => mt (P := fun q => isTyv q ∧ (k : Int) = (q.2.1 66).toInt) (fun x z => absurd z.1 tv.ty) (fun z => ⟨t5, by rw [← e66]; exact z.2⟩) p
  have pa' : ∀ k : Nat, PCA (tvs tl ++ [r6] ++ V0) k → PCA ([r5] ++ V0) k := fun k p => mt (P := fun q => isTyv q ∧ (k : Int) = (q.2.1 72).toInt) (fun x z => absurd z.1 tv.ty) (fun z => ⟨t5, by rw [← e72]; exact z.2⟩) p
  have etg : ptl (tvs tl ++ [r6] ++ V0) = ptl ([r5] ++ V0) := by
    rw [ptl.app, ptl.app, tvs_ptl]
    show (tl ++ (rtgs r6 ++ [])) ++ ptl V0 = rtgs r5 ++ ptl V0
    rw [List.append_nil, ← etl]
  obtain ⟨jsi, ⟨n1, n2, n3⟩, n4, n5⟩ := jsj
  rw [erj5] at jsi n5
  refine ⟨b1, b2, b3, b4, Ψ, G, col, YJ, SAX.mo py' pa' sax, ⟨⟨fun k q => pin.1 k (pe' k q), fun k q => pin.2.1 k (pz' k q), fun k q => pin.2.2.1 k (py' k q), fun k q => pin.2.2.2 k (pa' k q)⟩, pin0⟩, ?_, ⟨⟨?_, ⟨fun q hq k p => ?_, n2, fun w hw k p => ?_⟩, n4, fun z z1 z2 => n5 z z1 (fun ⟨q, hq, q1, q2⟩ => z2 ?_)⟩, bD, fun q hq x hx => ?_, hds.2⟩, ?_⟩
  · unfold TGI at tgi ⊢
    rw [etg]
    exact tgi
  · rw [erj]
    exact JSI.rt jsi t5 t6 e22 e66 wl
  · rcases List.mem_append.mp hq with z | z
    · rcases mm q z with ⟨x, e⟩ | e
      · rw [e] at p
        exact absurd p tv.site
      · rw [e] at p
        exact absurd p (tyv.site t6)
    · exact n1 q (List.mem_append_right _ z) k p
  · rcases mm w hw with ⟨x, e⟩ | e
    · rw [e] at p
      exact absurd p tv.site
    · rw [e] at p
      exact absurd p (tyv.site t6)
  · rw [erj]
    rw [List.mem_singleton.mp hq] at q2
    exact ⟨r6, List.mem_cons_self, t6, by rw [e66]; exact q2⟩
  · rcases List.mem_append.mp hq with z | z
    · rcases mm q z with ⟨y, e⟩ | e
      · rw [e] at hx
        exact absurd hx (tv.hd x)
      · rw [e] at hx
        exact absurd hx (tyv.hd t6)
    · exact hds.1 q (List.mem_append_right _ z) x hx
  intro FC SF nm X h0 ω c0 psi ng0 hc0 hh0 hω
  obtain ⟨⟨ng, hc, hh, wn⟩, mn⟩ := main FC SF nm X h0 ω c0 psi ng0 hc0 hh0 hω
  refine ⟨⟨ng, hc, hh, fun q hq hv => ?_, wn.2⟩, fun fc fg hA tyc jr => mn (fc.pl (fun y hy => by rw [etg] at hy; exact hy)) (fg.st pe' pz' py' pa' ph') hA tyc jr⟩
  rcases mm q hq with ⟨x, e⟩ | e
  · rw [e] at hv
    exact absurd hv (WGD.no (by rw [tv.v]; decide) rfl)
  · rw [e]
    obtain ⟨m1, m2, m3⟩ := (wn.1 r5 List.mem_cons_self (Or.inr ⟨t5, p5⟩)).2 t5
    exact ⟨fun z => absurd z (nvs _ (by decide)), fun _ => ⟨by rw [eo2]; exact m1, by rw [eo9]; exact m2, by rw [eo9, eo11]; exact m3.1, by rw [eo11]; exact m3.2.1, fun z => absurd z nv.1, fun z => absurd z nv.1, fun z => absurd z nv.2⟩⟩
theorem rjw.sub {q : RVW} : ∀ (W : List RVW), q ∈ rjw W → q ∈ W
  | [], h => h
  | r :: W, h => by
    by_cases c : (r.v = 213 ∨ r.v = 215 ∨ r.v = 305 ∨ r.v = 216) ∧ ¬ r.2.2.1 = 0
    · rw [rjw.y c] at h
      rcases List.mem_cons.mp h with z | z
      · rw [z]
        exact List.mem_cons_self
      · exact List.mem_cons_of_mem _ (rjw.sub W z)
    · rw [rjw.n c] at h
      exact List.mem_cons_of_mem _ (rjw.sub W h)
/-- a word of a try that is open is set -/
theorem JRG.s30 {k y : Nat} {v : Int32} (h : JRG A U B b V0 s0 W K a e S s) (hk : k = 30 ∨ k = 31 ∨ k = 32) (hy : (b.i 29).toInt ≤ (y : Int)) (hp : PTY (rjw W) y) (nd : ∀ q ∈ V0, isTyv q → ¬ (q.2.1 66).toNatClampNeg = y) : JRG A U B b V0 s0 W K a e S (RS.setA s k y v) := by
  intro crB
  obtain ⟨b1, b2, b3, b4, Ψ, G, col, YJ, sax, ⟨pin, pin0⟩, tgi, ⟨jsj, bD, hds⟩, main⟩ := h crB
  obtain ⟨u, hu⟩ : ∃ u, u = RS.setA s k y v := ⟨_, rfl⟩
  have ui : u.i = s.i := by rw [hu]; rfl
  have ua : ∀ n : Nat, n ≠ k → u.a n = s.a n := fun n hn => by rw [hu]; exact setA_nk hn
  have uk : ∀ j : Nat, j ≠ y → ∀ n : Nat, u.a n j = s.a n j := fun j hj n => by
    by_cases c : n = k
    · rw [hu, c, setA_ne hj]
    · rw [ua n c]
  rw [← hu]
  clear hu
  have pW : PTY (W ++ V0) y := by
    obtain ⟨q, hq, q1⟩ := hp
    exact ⟨q, List.mem_append_left _ (rjw.sub W hq), q1⟩
  obtain ⟨⟨k1, k2, k3, k4, k5⟩, m1, m2, m3, m4⟩ := b3
  have n21 : ∀ n : Nat, (21 ≤ n ∧ n ≤ 28) ∨ (34 ≤ n ∧ n ≤ 40) → u.a n = s.a n := fun n hn => ua n (by omega)
  refine ⟨b1, ⟨b2.1, b2.2.nk (NK.eq rfl rfl (by rw [ui]) (by rw [ui]))⟩, ⟨⟨by rw [ui]; exact k1, by rw [ui]; exact k2, by rw [ui]; exact k3, by rw [ui]; exact k4, fun q => by
    have z := k5 q
    unfold SLO at z ⊢
    rw [ui]
    exact z⟩, fun j hj => by rw [n21 21 (by omega), n21 22 (by omega), n21 23 (by omega)]; exact m1 j hj, fun j hj => by rw [n21 25 (by omega), n21 26 (by omega), n21 27 (by omega), n21 28 (by omega)]; exact m2 j hj, fun j hj => by rw [uk j (by omega), uk j (by omega), uk j (by omega)]; exact m3 j hj, fun j hj => by rw [n21 34 (by omega), n21 35 (by omega), n21 36 (by omega), n21 37 (by omega)]; exact m4 j hj⟩, ?_, Ψ, G, col, YJ, ?_, ⟨?_, pin0⟩, tgi, ⟨⟨jsj.1, jsj.2.1, fun j hj => by rw [n21 22 (by omega)]; exact jsj.2.2.1 j hj, fun z z1 z2 => by
    rw [uk z (fun w => z2 (by rw [w]; exact hp))]
    exact jsj.2.2.2 z z1 z2⟩, bD, hds.1, ?_⟩, ?_⟩
  · unfold KDC SLC SLO at b4 ⊢
    rw [ui]
    exact b4
  · unfold SAX GHM SLO at sax ⊢
    rw [ui]
    exact sax
  · unfold PIN at pin ⊢
    rw [ui]
    exact pin
  · refine ⟨hds.2.1.mv (Int.le_refl _) (Int.le_refl _) (fun _ _ => rfl) (by rw [ui]; exact Int.le_refl _) (fun j _ => by
      rw [n21 25 (by omega), n21 26 (by omega), n21 27 (by omega), n21 28 (by omega)]
      exact ⟨rfl, rfl, rfl, rfl⟩) (fun q hq z => by rw [n21 22 (by omega)]) (fun q hq z => uk _ (nd q hq z) _) (fun q hq z => uk _ (nd q hq z) _), hds.2.2.mv (by rw [ui]; exact Int.le_refl _) (by rw [ui]; exact Int.le_refl _)⟩
  intro FC SF nm X h0 ω c0 psi ng0 hc0 hh0 hω
  obtain ⟨⟨ng, hc, hh, wn⟩, mn⟩ := main FC SF nm X h0 ω c0 psi ng0 hc0 hh0 hω
  refine ⟨⟨⟨⟨fun n hn => ?_, ng.1.2.1, by rw [ui]; exact ng.1.2.2.1, ?_⟩, ng.2⟩, hc, hh, wn⟩, fun fc fg hA tyc jr => mn fc ?_ hA tyc jr⟩
  · rw [ui] at hn
    rw [n21 40 (by omega)]
    exact ng.1.1 n hn
  · have z := ng.1.2.2.2
    unfold NCB SLO at z ⊢
    rw [ui]
    exact z
  · obtain ⟨g1, g4, g5, g6, g7⟩ := fg
    rw [ui] at g1 g4 g5 g6 g7
    refine ⟨g1, fun j j1 j2 => ?_, fun j j1 j2 => ?_, fun j j1 j2 j3 => ?_, fun j j1 j2 => ?_⟩
    · have z := g4 j j1 j2
      rw [n21 21 (by omega), n21 22 (by omega), n21 23 (by omega)] at z
      exact z
    · have z := g5 j j1 j2
      rw [n21 25 (by omega), n21 26 (by omega), n21 27 (by omega), n21 28 (by omega)] at z
      exact z
    · have z := g6 j j1 j2 j3
      have ne : j ≠ y := fun w => j3 (by rw [w]; exact pW)
      rw [uk j ne, uk j ne, uk j ne] at z
      exact z
    · have z := g7 j j1 j2
      rw [n21 34 (by omega), n21 35 (by omega), n21 36 (by omega), n21 37 (by omega)] at z
      exact z
set_option maxHeartbeats 1000000 in
/-- a try goes: its words stand, what waited at it is resolved -/
theorem JRG.cty {r6 : RVW} {σ0 σ1 u : RS} {x2 : Int32} {y : Nat} (h : JRG A U B b V0 s0 [r6] K a e S s) (t6 : isTyv r6) (e6 : rtgs r6 = [r6.1 9]) (p6 : ¬ r6.2.2.1 = 0) (nd : ∀ q ∈ V0, isTyv q → ¬ q.2.1 66 = r6.2.1 66) (nd2 : ∀ q ∈ V0, isTyv q → 0 ≤ (r6.2.1 72).toInt → ¬ q.2.1 72 = r6.2.1 72) (pl : ∀ q ∈ V0, q.2.2.1 < r6.2.2.1) (y66 : (r6.2.1 66).toInt = (y : Int) ∧ (b.i 29).toInt ≤ (y : Int)) (e0 : σ0.i 59 = s0.i 59 ∧ ∀ k : Nat, (k = 47 ∨ k = 48 ∨ k = 49 ∨ k = 50 ∨ k = 51 ∨ k = 60 ∨ k = 61 ∨ k = 62) → σ0.a k = s0.a k) (rx : RSX (r6.2.1 66) x2 0 σ0 σ1) (eu : u.i 43 = s0.i 43 ∧ u.i 59 = s0.i 59 ∧ ∀ k : Nat, (k = 47 ∨ k = 48 ∨ k = 49 ∨ k = 50 ∨ k = 51 ∨ k = 60 ∨ k = 61 ∨ k = 62) → u.a k = σ1.a k) (du : D52 s u) (n38 : u.i 38 = s.i 38 ∧ u.a 40 = s.a 40 ∧ u.i 52 = s.i 52) (l11 : (s0.i 11).toInt ≤ (u.i 11).toInt) (l19 : (s0.i 19).toInt ≤ (u.i 19).toInt) (wts : ∀ i : Nat, WTS σ0 i → ∀ r ∈ V0, isGo r.v → (σ0.a 60 i).toInt = ((r.2.2.2 : Nat) : Int) → ∃ r3 ∈ V0, isTyv r3 ∧ isWl r3.v ∧ σ0.a 57 ((σ0.i 56).toInt - 1).toNat = r3.2.1 66 ∧ r.2.2.1 < r3.2.2.1) (x31 : x2 = 0 → 0 ≤ (u.a 31 y).toInt) : JRG A U B b V0 u (tvs [r6.1 9]) (fun FC SF nm X ω j Z => ((U.a 30 y = u.a 30 y ∧ U.a 31 y = u.a 31 y ∧ U.a 32 y = u.a 32 y) ∧ (0 ≤ (r6.2.1 72).toInt → U.a 37 (r6.2.1 72).toNatClampNeg = u.a 37 (r6.2.1 72).toNatClampNeg) ∧ (FC y ↔ ¬ x2 = 0)) ∧ K FC SF nm X ω j Z) a e S u := by
  intro crB
  obtain ⟨b1, b2, b3, b4, Ψ, G, col, YJ, sax, ⟨pin, pin0⟩, tgi, ⟨jsj, bD, hds⟩, main⟩ := h crB
  have erj : rjw [r6] = [r6] := rjw.y ⟨show isTy r6.v from t6, p6⟩
  have mt : ∀ {P : RVW → Prop}, (∀ x : Int32, ¬ P (tv x)) → (∃ q ∈ tvs [r6.1 9] ++ V0, P q) → ∃ q ∈ V0, P q := fun {P} hP ⟨q, hq, p⟩ => by
    rcases List.mem_append.mp hq with z | z
    · obtain ⟨x, e⟩ := tvs.mem _ z
      rw [e] at p
      exact absurd p (hP x)
    · exact ⟨q, z, p⟩
  have up : ∀ {P : RVW → Prop}, (∃ q ∈ V0, P q) → ∃ q ∈ [r6] ++ V0, P q := fun {P} ⟨q, hq, p⟩ => ⟨q, List.mem_append_right _ hq, p⟩
  have pe0 : ∀ k : Nat, PEN (tvs [r6.1 9] ++ V0) col k → PEN V0 col k := fun k p => p.imp_right (fun z => mt (P := fun q => rsite q k) (fun x => tv.site) z)
  have ph0 : ∀ k : Nat, PCH (tvs [r6.1 9] ++ V0) k → PCH V0 k := fun k p => mt (P := fun q => (q.v = 218 ∨ q.v = 995) ∧ (k : Int) = (q.2.1 66).toInt) (fun x z => absurd z.1 (by rw [tv.v]; decide)) p
  have pz0 : ∀ k : Nat, PCZ (tvs [r6.1 9] ++ V0) k → PCZ V0 k := fun k p => mt (P := fun q => q.v = 218 ∧ (k : Int) = (q.2.1 67).toInt) (fun x z => absurd z.1 (by rw [tv.v]; decide)) p
  have py0 : ∀ k : Nat, PTY (tvs [r6.1 9] ++ V0) k → PTY V0 k := fun k p => mt (P := fun q => isTyv q ∧ (k : Int) = (q.2.1 66).toInt) (fun x z => absurd z.1 tv.ty) p
  have pa0 : ∀ k : Nat, PCA (tvs [r6.1 9] ++ V0) k → PCA V0 k := fun k p => mt (P := fun q => isTyv q ∧ (k : Int) = (q.2.1 72).toInt) (fun x z => absurd z.1 tv.ty) p
  have npt : ¬ PTY (tvs [r6.1 9] ++ V0) y := fun p => by
    obtain ⟨q, hq, q1, q2⟩ := py0 y p
    exact nd q hq q1 (Int32.toInt_inj.mp (by omega))
  have p6y : PTY ([r6] ++ V0) y := ⟨r6, List.mem_cons_self, t6, y66.1.symm⟩
  have y29 : (y : Int) < (u.i 29).toInt := by
    rw [du.1.2.2.1]
    exact pin.2.2.1 y p6y
  have etg : ptl (tvs [r6.1 9] ++ V0) = ptl ([r6] ++ V0) := by
    rw [ptl.app, tvs_ptl]
    show _ = rtgs r6 ++ ptl V0
    rw [e6]
  have sax1 : SAX ([r6] ++ V0) Ψ B b S u := sax.d (D38.rf S) du
  obtain ⟨jsi, ⟨n1, n2, n3⟩, n4, n5⟩ := jsj
  rw [erj] at jsi n5
  have js : JSI (fun FC nm => Ψ FC nm ∧ (FC y ↔ ¬ x2 = 0)) V0 col YJ b u := JSI.rsv jsi t6 nd pl ⟨y66.1, y66.2, y29⟩ e0 rx eu (by rw [du.1.1]; exact b4.1.1) (by rw [du.1.2.2.1]; exact b4.1.2.2.1) (fun j hj => by rw [du.2.2.1]; exact n4 j hj) (fun z z1 z2 => by
    rw [du.2.2.2.2.2.2.2.2.2.1]
    exact n5 z z1 (fun ⟨q, hq, p⟩ => z2 ⟨q, List.mem_append_left _ hq, p⟩)) (fun _ _ q => q.1) wts (fun z => ⟨x31 z, fun FC nm q f => q.2.mp f z⟩)
  have pinu : PIN (tvs [r6.1 9] ++ V0) col s := ⟨fun k q => pin.1 k ((pe0 k q).imp_right up), fun k q => pin.2.1 k (up (pz0 k q)), fun k q => pin.2.2.1 k (up (py0 k q)), fun k q => pin.2.2.2 k (up (pa0 k q))⟩
  have pinV : PIN V0 col s := ⟨fun k q => pin.1 k (q.imp_right up), fun k q => pin.2.1 k (up q), fun k q => pin.2.2.1 k (up q), fun k q => pin.2.2.2 k (up q)⟩
  refine ⟨b1, ⟨b2.1, b2.2.nk (NK.eq rfl rfl n38.2.2 n38.1)⟩, b3.d du, KDC.rf _, (fun FC nm => Ψ FC nm ∧ (FC y ↔ ¬ x2 = 0)), G, col, YJ, ?_, ⟨pinu.d du, pinV.d du⟩, ?_, ⟨⟨by rw [tvs.rj]; exact js, ⟨fun q hq k p => ?_, n2, fun w hw k p => ?_⟩, fun _ _ => rfl, fun _ _ _ => rfl⟩, bD, fun q hq x hx => ?_, hds.2.d (D38.rf S) du⟩, ?_⟩
  · intro sl
    obtain ⟨g1, F, M, g2, g3⟩ := sax1 sl
    refine ⟨⟨g1.1, fun k p => g1.2 k (up (pa0 k p))⟩, fun z => if z = y then ¬ x2 = 0 else F z, M, g2, fun FC nm w => ⟨g3 FC nm ⟨fun z z1 z2 z3 => ?_, w.2⟩, ?_⟩⟩
    · have ne : ¬ z = y := fun c => z3 (by rw [c]; exact p6y)
      have q : FC z ↔ (if z = y then ¬ x2 = 0 else F z) := w.1 z z1 z2 (fun p => z3 (up (py0 z p)))
      rw [if_neg ne] at q
      exact q
    · have q : FC y ↔ (if y = y then ¬ x2 = 0 else F y) := w.1 y y66.2 y29 npt
      rw [if_pos rfl] at q
      exact q
  · unfold TGI at tgi ⊢
    rw [etg]
    exact tgi
  · rcases List.mem_append.mp hq with z | z
    · obtain ⟨x, e⟩ := tvs.mem _ z
      rw [e] at p
      exact absurd p tv.site
    · exact n1 q (List.mem_append_right _ z) k p
  · obtain ⟨x, e⟩ := tvs.mem _ hw
    rw [e] at p
    exact absurd p tv.site
  · rcases List.mem_append.mp hq with z | z
    · obtain ⟨x', e⟩ := tvs.mem _ z
      rw [e] at hx
      exact absurd hx (tv.hd x)
    · exact hds.1 q (List.mem_append_right _ z) x hx
  intro FC SF nm X h0 ω c0 psi ng0 hc0 hh0 hω
  obtain ⟨⟨ng, hc, hh, wn⟩, mn⟩ := main FC SF nm X h0 ω c0 psi.1 ng0 hc0 hh0 hω
  refine ⟨⟨⟨⟨fun k hk => ?_, ng.1.2.1, by rw [n38.2.2]; exact ng.1.2.2.1, ng.1.2.2.2.d (D38.rf S) du⟩, Int.le_trans ng.2 l19⟩, hc, Int.le_trans hh l11, fun q hq hv => ?_, ?_⟩, fun fc fg hA tyc jr => ⟨⟨?_, fun z => ?_, psi.2⟩, mn (fc.pl (fun y hy => by rw [etg] at hy; exact hy)) ((fg.d du).st (fun k q => (pe0 k q).imp_right up) (fun k q => up (pz0 k q)) (fun k q => up (py0 k q)) (fun k q => up (pa0 k q)) (fun k q => up (ph0 k q))) hA tyc jr⟩⟩
  · rw [n38.1] at hk
    rw [n38.2.1]
    exact ng.1.1 k hk
  · obtain ⟨x, e⟩ := tvs.mem _ hq
    rw [e] at hv
    exact absurd hv (WGD.no (by rw [tv.v]; decide) rfl)
  · exact wn.2.mv V0 (fun q hq go => by
      rw [eu.2.2 47 (by decide), rx.1.2.2.2 47 (by decide) (by decide) (by decide), e0.2 47 (by decide)]) l11
  · exact fg.2.2.2.1 y y66.2 y29 npt
  · have ck := clampI z
    refine (fg.2.2.2.2 _ ((sax ng0.2.2.2.2.1).1.2 _ ⟨r6, List.mem_cons_self, t6, ck⟩) ?_).2.2.2 (fun p => ?_)
    · rw [du.1.2.2.2.1]
      exact pin.2.2.2 _ ⟨r6, List.mem_cons_self, t6, ck⟩
    · obtain ⟨q, hq, q1, q2⟩ := pa0 _ p
      exact nd2 q hq q1 z (Int32.toInt_inj.mp (by omega))
end
end
section
/-! both readers: a try's next block begins -/
section
variable {A : JBA} {U : RS} {B : CS} {b : RS} {V0 : List RVW} {s0 : RS} {K : JKT} {a e : Int} {R0 R : CS} {u0 u : RS} {r r6 : RVW} {tl : List Int32}
set_option maxHeartbeats 2000000 in
theorem JRG.pty (gv : Nat × Nat × List (Int32 × Nat)) (n8' : N8 B b V0 R0 u0 → N8 B b (r :: V0) R u) (dR : D38 R0 R) (du : D52 u0 u) (h : JRG A U B b V0 s0 (tvs tl ++ [r6]) K a e R0 u0) (ty : r.v = 215 ∨ r.v = 216) (t6 : isTyv r6) (p6 : ¬ r6.2.2.1 = 0) (wl : isWl r.v → isWl r6.v) (e2 : r.2.2 = r6.2.2 ∧ r.2.1 66 = r6.2.1 66 ∧ r.2.1 72 = r6.2.1 72 ∧ r.1 2 = r6.1 2 ∧ r.1 9 = r6.1 9 ∧ r.1 11 = r6.1 11) (la : a ≤ 0 ∧ (r.v = 215 → a ≤ -1)) (le : e ≤ 0 ∨ (e ≤ 1 ∧ ¬ ALN (R.i 43))) (eJ : u.i 43 = s0.i 43 ∧ u.i 59 = s0.i 59 ∧ ∀ k : Nat, (k = 47 ∨ k = 48 ∨ k = 49 ∨ k = 50 ∨ k = 51 ∨ k = 60 ∨ k = 61 ∨ k = 62) → u.a k = s0.a k) (l19 : (s0.i 19).toInt ≤ (u.i 19).toInt) (l11 : (s0.i 11).toInt ≤ (u.i 11).toInt) (pl : ∀ q ∈ V0, q.2.2.1 < r.2.2.1) (tg : (rtgs r).Perm (tl ++ rtgs r6)) (y66 : 0 ≤ (r.2.1 66).toInt) (s16 : r.v = 216 → (u.a 31 (r.2.1 66).toNatClampNeg).toInt = (gv.1 : Int)) (s15 : r.v = 215 → (u.a 31 (r.2.1 66).toNatClampNeg).toInt < 0 ∧ 0 ≤ (r.2.1 72).toInt ∧ 3 * (gv.2.2.length : Int) + 3 ≤ (u.i 11).toInt ∧ ∀ z ∈ gv.2.2, ((z.2 : Nat) : Int) ≤ (R.i 20).toInt) (s30 : ∀ z ∈ gv.2.2, u.a 30 (r.2.1 66).toNatClampNeg = z.1) (hN : ∀ (nm : Nat → Nat → Prop) (G : GHT) (ω : Nat) (j : JCT), G r.2.2.1 = gv → NMH nm j.c R0 u0 → (frs j.c : Int) ≤ (s0.i 19).toInt → HC0 nm j.h j.c → ((2 * j.h + msr j.c : Nat) : Int) ≤ (s0.i 11).toInt → (r.1 2).toInt = (frs j.c : Int) → NMG nm (jen G ω r j.h j.l ++ j.c) R u ∧ HC0 nm j.h (jen G ω r j.h j.l ++ j.c) ∧ ((2 * j.h + msr (jen G ω r j.h j.l ++ j.c) : Nat) : Int) ≤ (u.i 11).toInt ∧ (r.v = 215 → NB4 gv.2.1 r)) (hK : ∀ (FC : Nat → Prop) (SF : CS) (nm : Nat → Nat → Prop) (X : Als) (G : GHT) (ω : Nat) (j : JCT) (Z : Prop), G r.2.2.1 = gv → 1300 ≤ ω → pcC R ≤ 1200 → HC0 nm j.h j.c → TYC SF U (GU FC SF U nm X) (ω + j.t) j.c → j.t ≤ j.l → K FC SF nm X ω j Z → TRH FC SF U nm X G ω r j → (R.i 36 = 1 → GU2 FC SF U nm X (pcC R) (pcR u) j.h (ω + (j.l + jlv r.v) - pcC R) (jen G ω r j.h j.l ++ j.c)) → Z) : JRW A U B b (r :: V0) R u := by
  intro crB
  obtain ⟨b1, b2, b3, b4, Ψ, G, col, YJ, sax, ⟨pin, pin0⟩, tgi, ⟨jsj, bD, hds⟩, main⟩ := h crB
  obtain ⟨e22, e66, e72, eo2, eo9, eo11⟩ := e2
  have tyr : isTyv r := by
    show isTy r.v
    rcases ty with z | z
    · exact Or.inr (Or.inl z)
    · exact Or.inr (Or.inr (Or.inr z))
  have nvs : ∀ v : Int32, ¬ (v = 215 ∨ v = 216) → ¬ r.v = v := fun v hv q => hv (by rw [← q]; exact ty)
  have df : dfr r.v = 1 := by
    unfold dfr
    exact if_pos (ty.elim (fun z => Or.inr (Or.inr (Or.inl z))) (fun z => Or.inr (Or.inr (Or.inr z))))
  have erj : rjw (tvs tl ++ [r6]) = [r6] := (tvs.rjw tl [r6]).trans (rjw.y ⟨show isTy r6.v from t6, p6⟩)
  have m6 : r6 ∈ tvs tl ++ [r6] := List.mem_append_right _ List.mem_cons_self
  have pn : ∀ q ∈ V0, ¬ q.2.2.1 = r.2.2.1 := fun q hq z => by
    have := pl q hq
    omega
  have mt : ∀ {P : RVW → Prop}, (P r → P r6) → (∃ q ∈ r :: V0, P q) → ∃ q ∈ tvs tl ++ [r6] ++ V0, P q := fun {P} hr ⟨q, hq, p⟩ => by
    rcases List.mem_cons.mp hq with z | z
    · rw [z] at p
      exact ⟨r6, List.mem_append_left _ m6, hr p⟩
    · exact ⟨q, List.mem_append_right _ z, p⟩
  have pe : ∀ k : Nat, PEN (r :: V0) col k → PEN (tvs tl ++ [r6] ++ V0) col k := fun k p => p.imp_right (fun z => mt (P := fun q => rsite q k) (fun z => absurd z (tyv.site tyr)) z)
  have nv' : ¬ (r.v = 218 ∨ r.v = 995) := fun z => z.elim (nvs _ (by decide)) (nvs _ (by decide))
  have ph : ∀ k : Nat, PCH (r :: V0) k → PCH (tvs tl ++ [r6] ++ V0) k := fun k p => mt (P := fun q => (q.v = 218 ∨ q.v = 995) ∧ (k : Int) = (q.2.1 66).toInt) (fun z => absurd z.1 nv') p
  have pz : ∀ k : Nat, PCZ (r :: V0) k → PCZ (tvs tl ++ [r6] ++ V0) k := fun k p => mt (P := fun q => q.v = 218 ∧ (k : Int) = (q.2.1 67).toInt) (fun z => absurd (Or.inl z.1) nv') p
  have py : ∀ k : Nat, PTY (r :: V0) k → PTY (tvs tl ++ [r6] ++ V0) k := fun k p => mt (P := fun q => isTyv q ∧ (k : Int) = (q.2.1 66).toInt) (fun z => ⟨t6, by rw [← e66]; exact z.2⟩) p
  have pa : ∀ k : Nat, PCA (r :: V0) k → PCA (tvs tl ++ [r6] ++ V0) k := fun k p => mt (P := fun q => isTyv q ∧ (k : Int) = (q.2.1 72).toInt) (fun z => ⟨t6, by rw [← e72]; exact z.2⟩) p
  have pm : (ptl (r :: V0)).Perm (ptl (tvs tl ++ [r6] ++ V0)) := by
    rw [ptl.app, ptl.app, tvs_ptl]
    show (rtgs r ++ ptl V0).Perm ((tl ++ (rtgs r6 ++ [])) ++ ptl V0)
    rw [List.append_nil]
    exact tg.append_right _
  replace b1 := b1.d dR
  replace bD := bD.d dR
  replace b3 := b3.d du
  replace b4 := b4.d du
  replace sax := sax.d dR du
  replace pin := pin.d du
  replace tgi := tgi.d dR
  obtain ⟨jsi, ⟨n1, n2, n3⟩, n4, n5⟩ := jsj
  rw [erj] at jsi n5
  have jsr : JSI Ψ (r :: V0) col YJ b s0 := JSI.rt jsi t6 tyr e22 e66 wl
  have gkv : GKV (r :: V0) s0 u := ⟨fun q hq go => by
    have z := (jsr.1 q hq go).1
    rw [eJ.2.2 50 (by decide), eJ.2.2 51 (by decide), eJ.2.2 48 (by decide), eJ.2.2 49 (by decide), eJ.2.2 47 (by decide)]
    exact ⟨by rw [eJ.1]; exact z, rfl, rfl, rfl, rfl, rfl⟩, by rw [eJ.2.1]; exact Int.le_refl _, fun j _ => by
    rw [eJ.2.2 60 (by decide), eJ.2.2 61 (by decide), eJ.2.2 62 (by decide)]
    exact ⟨rfl, rfl, rfl⟩⟩
  have jsu : JSI Ψ (r :: V0) col YJ b u := jsr.mw gkv b4.1.1 b4.1.2.2.1 (fun j hj => by rw [du.2.2.1]; exact n4 j hj) (fun y y1 y2 => by
    rw [du.2.2.2.2.2.2.2.2.2.1]
    exact n5 y y1 (fun ⟨q, hq, q1, q2⟩ => y2 ⟨r, List.mem_cons_self, tyr, by rw [List.mem_singleton.mp hq] at q2; rw [e66]; exact q2⟩)) (fun _ _ q => q)
  have cky := clampI y66
  have swt : SWT (b.i 24).toInt (G.set r.2.2.1 gv) (r :: V0) R u := by
    have z : SWT (b.i 24).toInt G V0 R u := hds.2.d dR du
    refine ⟨fun q hq => ?_, fun q hq => ?_⟩
    · rcases List.mem_cons.mp hq with e9 | hq
      · rw [e9]
        refine ⟨fun w => absurd w (nvs _ (by decide)), fun w => by rw [GHT.at]; exact s16 w, fun w => by rw [GHT.at]; exact (s15 w).2.2.2, fun w => absurd w (nvs _ (by decide)), fun _ w => (s15 (ty.resolve_right w)).1, fun _ => by rw [GHT.at]; exact s30⟩
      · have y := z.1 q hq
        unfold SWG
        rw [GHT.ne (pn q hq)]
        exact y
    · rcases List.mem_cons.mp hq with e9 | hq
      · rw [e9]
        refine ⟨fun w => absurd w (nvs _ (by decide)), fun w => ⟨y66, ?_⟩, nvs _ (by decide)⟩
        have z := pin.2.2.1 _ (py _ ⟨r, List.mem_cons_self, tyr, cky⟩)
        omega
      · exact z.2 q hq
  have dbs : DB (G.set r.2.2.1 gv) (r :: V0) = DB G V0 + dbr gv r.v := by
    show DB (G.set r.2.2.1 gv) V0 + dbr (G.set r.2.2.1 gv r.2.2.1) r.v = _
    rw [DB.gs V0 pn, GHT.at]
  have dbl : a + dbr gv r.v ≤ 0 := by
    unfold dbr
    rcases ty with z | z
    · rw [if_pos (Or.inr (Or.inr (Or.inr (Or.inr (Or.inl z)))))]
      have := la.2 z
      omega
    · rw [if_neg (by rw [z]; decide), if_neg (by rw [z]; decide)]
      have := la.1
      omega
  have hD : ∃ e : Int, (e = 0 ∨ (e = 1 ∧ ¬ ALN (R.i 43))) ∧ KD1 (-(DB (G.set r.2.2.1 gv) (r :: V0))) e B R := by
    rw [dbs]
    rcases le with z | ⟨z, z'⟩
    · exact ⟨0, Or.inl rfl, bD.wk (by omega) z⟩
    · exact ⟨1, Or.inr ⟨rfl, z'⟩, bD.wk (by omega) z⟩
  refine ⟨?_, ⟨fun k k1 k2 => by rw [dR.2.2.2.1]; exact b2.1 k k1 k2, n8' b2.2⟩, b3, Ψ, G.set r.2.2.1 gv, col, YJ, sax.mo py pa, ⟨fun k q => pin.1 k (pe k q), fun k q => pin.2.1 k (pz k q), fun k q => pin.2.2.1 k (py k q), fun k q => pin.2.2.2 k (pa k q)⟩, ⟨pm.symm.nodup tgi.1, fun x hx => tgi.2 x (pm.mem_iff.mp hx)⟩, ⟨jsu, hD, fun q hq x hx => ?_, swt⟩, ?_⟩
  · rcases le with z | ⟨z, z'⟩
    · exact ⟨0, Or.inl rfl, b1.wk la.1 z⟩
    · exact ⟨1, Or.inr ⟨rfl, z'⟩, b1.wk la.1 z⟩
  · rw [dR.2.2.2.1, dR.1.2.1, dR.1.1]
    rcases List.mem_cons.mp hq with z | z
    · rw [z] at hx
      exact absurd hx (tyv.hd tyr)
    · exact hds.1 q (List.mem_append_right _ z) x hx
  intro FC SF nm X h0 ω c0 psi ng0 hc0 hh0 hω
  obtain ⟨⟨ng, hc, hh, wn⟩, mn⟩ := main FC SF nm X h0 ω c0 psi ng0 hc0 hh0 hω
  obtain ⟨w2, w9, w3⟩ := (wn.1 r6 m6 (Or.inr ⟨t6, p6⟩)).2 t6
  have ecx : JCX (G.set r.2.2.1 gv) ω h0 c0 V0 = JCX G ω h0 c0 V0 := JCX.gs V0 pn
  have hj := hN nm (G.set r.2.2.1 gv) ω (JCX G ω h0 c0 V0) GHT.at ng.1 ng.2 hc hh (by rw [eo2]; exact w2)
  have hd : DPM (G.set r.2.2.1 gv) (frs c0) c0.length u (r :: V0) := ⟨⟨fun z => absurd z (tyv.go tyr), fun _ => ⟨by rw [eo2, w2, (JCX.cnt G ω h0 c0 V0).2.1], by rw [eo9]; exact w9⟩, fun _ => ⟨by rw [eo9, eo11]; exact w3.1, by rw [eo11]; exact w3.2.1, fun z => absurd z (nvs _ (by decide)), fun z => absurd z (nvs _ (by decide)), fun z => (s15 z).2.1⟩, fun z => by rw [GHT.at]; exact ⟨(s15 z).2.2.1, hj.2.2.2 z⟩⟩, (DPM.gs V0 pn).mpr (wn.2.mv V0 (fun q hq go => by rw [eJ.2.2 47 (by decide)]) l11)⟩
  have e1 : JCX (G.set r.2.2.1 gv) ω h0 c0 (r :: V0) = ((JCX G ω h0 c0 V0).h, (JCX G ω h0 c0 V0).l + jlv r.v, jty r.v ((JCX G ω h0 c0 V0).l + jlv r.v) (JCX G ω h0 c0 V0).t, jen (G.set r.2.2.1 gv) ω r (JCX G ω h0 c0 V0).h (JCX G ω h0 c0 V0).l ++ (JCX G ω h0 c0 V0).c) := by
    show ((JCX (G.set r.2.2.1 gv) ω h0 c0 V0).h, (JCX (G.set r.2.2.1 gv) ω h0 c0 V0).l + jlv r.v, jty r.v ((JCX (G.set r.2.2.1 gv) ω h0 c0 V0).l + jlv r.v) (JCX (G.set r.2.2.1 gv) ω h0 c0 V0).t, jen (G.set r.2.2.1 gv) ω r (JCX (G.set r.2.2.1 gv) ω h0 c0 V0).h (JCX (G.set r.2.2.1 gv) ω h0 c0 V0).l ++ (JCX (G.set r.2.2.1 gv) ω h0 c0 V0).c) = _
    rw [ecx]
  rw [e1]
  refine ⟨⟨hj.1, hj.2.1, hj.2.2.1, hd⟩, fun fc fg hA tyc jr cur => ?_⟩
  have jr1 : JRH FC SF U nm X (G.set r.2.2.1 gv) col YJ ω r (JCX G ω h0 c0 V0) := by
    have z := jr.1
    rw [ecx] at z
    exact z
  have jr2 : JRS FC SF U nm X G col YJ ω h0 c0 V0 := by
    have z := jr.2
    rw [JRS.gs V0 pn] at z
    exact z
  have k0 := mn ((fc.d dR).pl (fun y hy => pm.mem_iff.mp hy)) ((fg.st pe pz py pa ph).d du) hA tyc jr2
  have z := hK FC SF nm X (G.set r.2.2.1 gv) ω _ _ GHT.at hω (by have := fc.1.2; unfold pcC; omega) hc (JRS.ty tyc V0 jr2) (JCX.tl G ω h0 c0 V0) k0 (jr1.2.2.2.2.2.2.2.1 tyr) cur
  refine ⟨z.1, ?_⟩
  show JHH FC SF U nm X (G.set r.2.2.1 gv) ω r (JCX (G.set r.2.2.1 gv) ω h0 c0 V0) ∧ JHS FC SF U nm X (G.set r.2.2.1 gv) ω h0 c0 V0
  rw [JHS.gs V0 pn]
  exact ⟨⟨fun q => absurd q (nvs _ (by decide)), fun q => absurd q (nvs _ (by decide)), fun q => absurd q (nvs _ (by decide)), fun q => absurd q (nvs _ (by decide)), fun q => absurd q (nvs _ (by decide))⟩, z.2⟩
end
end
