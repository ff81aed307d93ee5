/-! the class: a row more -/
def RWZ (S : CS) : Prop := (∀ i a : Nat, i < 400 → S.r 51 i = some a → oK S a 0) ∧ (∀ i j a : Nat, i < 400 → j < 400 → S.r 51 i = some a → S.r 51 j = some a → i = j) ∧ (∀ x ∈ S.L, x < S.hs)
theorem RWI.s {S : CS} (h : RWI S) : RWZ S := ⟨h.1, h.2.1, h.2.2.1⟩
/-- row a, at place m -/
def PSR (S R : CS) (a m : Nat) (x1 x3 : Int32) : Prop := (R.a = S.a ∧ R.b = S.b ∧ R.l = S.l) ∧ (∀ j : Nat, j ≠ 53 → j ≠ 54 → R.i j = S.i j) ∧ (R.i 53 = S.i 53 + 1 ∧ R.i 54 = S.i 54 + 1) ∧ R.r 51 m = some a ∧ (∀ k j : Nat, ¬ (k = 51 ∧ j = m) → R.r k j = S.r k j) ∧ RWZ R ∧ (∀ i b : Nat, i < 400 → i ≠ m → S.r 51 i = some b → b ≠ a) ∧ (∀ b : Nat, b ≠ a → R.o b = S.o b ∧ R.ol b = S.ol b) ∧ (R.o a 0 = x1 ∧ R.o a 1 = S.i 54 + 1 ∧ R.o a 3 = x3 ∧ R.ol a = 0) ∧ (R.o a 5 = 0 ∧ R.o a 6 = 0 ∧ R.o a 7 = 0 ∧ R.o a 8 = 0) ∧ (R.o a 9 = -1 ∧ R.o a 10 = -1 ∧ R.o a 11 = -1 ∧ R.o a 12 = 0 ∧ R.o a 14 = S.i 55)
theorem y_psh48 {N : Nat} {s : CS} {x1 x2 x3 x4 : Int32} {a : Nat} {R : Option Nat × CS} (e : f_X6_push_48 N s x1 x2 x3 x4 a = some R) : R.1 = some a ∧ ∃ g : Nat → Int32, OUV (CS.setI (CS.setI s 53 (x4 + 1)) 54 (s.i 54 + 1)) R.2 a g 0 ∧ (g 0 = x1 ∧ g 1 = s.i 54 + 1 ∧ g 3 = x3) ∧ (g 5 = 0 ∧ g 6 = 0 ∧ g 7 = 0 ∧ g 8 = 0) ∧ (g 9 = -1 ∧ g 10 = -1 ∧ g 11 = -1 ∧ g 12 = 0 ∧ g 14 = s.i 55) := by
  unfold f_X6_push_48 at e
  obtain ⟨-, e⟩ := hf_ite e
  cases e
  refine ⟨rfl, ?_⟩
  generalize CS.setI (CS.setI s 53 (x4 + 1)) 54 (s.i 54 + 1) = B
  exact ⟨_, (((((((((((((((OUV.rf B a).o 0 x1).o 1 _).o 2 x2).o 3 x3).l 0).o 5 0).o 6 0).o 7 0).o 8 0).o 9 (-1)).o 10 (-1)).o 11 (-1)).o 12 0).o 14 _), ⟨rfl, rfl, rfl⟩, ⟨rfl, rfl, rfl, rfl⟩, ⟨rfl, rfl, rfl, rfl, rfl⟩⟩
theorem y_push {N : Nat} {S : CS} {x1 x2 x3 : Int32} {R : Option Nat × CS} {m : Nat} (w : RWZ S) (hm : cnI S = (m : Int)) (m4 : m < 399) (e : f_X6_push N S x1 x2 x3 = some R) : ∃ a : Nat, R.1 = some a ∧ PSR S R.2 a m x1 x3 := by
  obtain ⟨w1, w2, w3⟩ := w
  have hm' : (S.i 53).toInt = (m : Int) := hm
  have e399 : (399 : Int32).toInt = 399 := by decide
  have hq : (if (399 : Int32) < (S.i 53) then (399 : Int32) else (S.i 53)) = S.i 53 := if_neg (fun z => by
    have := lt_int z
    omega)
  have en : (S.i 53).toNatClampNeg = m := by
    show (S.i 53).toInt.toNat = m
    rw [hm']
    exact Int.toNat_natCast _
  unfold f_X6_push at e
  rw [hq] at e
  obtain ⟨hib, e⟩ := hf_ite e
  rw [en] at e
  have main : ∀ (V : CS) (a : Nat), (V.i = S.i ∧ V.a = S.a ∧ V.b = S.b ∧ V.l = S.l) → V.r 51 m = some a → (∀ k j : Nat, ¬ (k = 51 ∧ j = m) → V.r k j = S.r k j) → (∀ b : Nat, b ≠ a → V.o b = S.o b ∧ V.ol b = S.ol b) → RWZ V → (∀ i b : Nat, i < 400 → i ≠ m → S.r 51 i = some b → b ≠ a) → f_X6_push_48 N V x1 x2 x3 (S.i 53) a = some R → ∃ a : Nat, R.1 = some a ∧ PSR S R.2 a m x1 x3 := fun V a vi vr vj vo vw vn e => by
    obtain ⟨r1, g, ⟨⟨b1, b2, b3, b4, b5, b6, b7, b8, b9, b10⟩, b11, b12, b13⟩, ⟨g0, g1, g3⟩, ⟨g5, g6, g7, g8⟩, ⟨g9, g10, g11, g12, g14⟩⟩ := y_psh48 e
    obtain ⟨v1, v2, v3, v4⟩ := vi
    have Ti : R.2.i = (CS.setI (CS.setI V 53 (S.i 53 + 1)) 54 (V.i 54 + 1)).i := b10
    have Tr : R.2.r = V.r := b5
    have TL : R.2.L = V.L := b2
    have Tk : R.2.k = V.k := b3
    have Th : R.2.hs = V.hs := b1
    refine ⟨a, r1, ⟨(show R.2.a = V.a from b9).trans v2, (show R.2.b = V.b from b7).trans v3, (show R.2.l = V.l from b8).trans v4⟩, fun j y1 y2 => ?_, ⟨?_, ?_⟩, by rw [Tr]; exact vr, fun k j h => by rw [Tr]; exact vj k j h, ⟨fun i b hi h => ?_, fun i j b hi hj h1 h2 => ?_, by rw [TL, Th]; exact vw.2.2⟩, vn, fun b hb => ?_, ⟨by rw [b12]; exact g0, by rw [b12, g1, v1], by rw [b12]; exact g3, b13⟩, ⟨by rw [b12]; exact g5, by rw [b12]; exact g6, by rw [b12]; exact g7, by rw [b12]; exact g8⟩, ⟨by rw [b12]; exact g9, by rw [b12]; exact g10, by rw [b12]; exact g11, by rw [b12]; exact g12, by rw [b12, g14, v1]⟩⟩
    · rw [Ti, ci_ne _ _ _ y2, ci_ne _ _ _ y1, v1]
    · rw [Ti, ci_ne _ _ _ (by decide), ci_at]
    · rw [Ti, ci_at, v1]
    · rw [Tr] at h
      have q := vw.1 i b hi h
      unfold oK at *
      rw [TL, Tk]
      exact q
    · rw [Tr] at h1 h2
      exact vw.2.1 i j b hi hj h1 h2
    · have q := b11 b hb
      have q2 := vo b hb
      exact ⟨(show R.2.o b = V.o b from q.1).trans q2.1, (show R.2.ol b = V.ol b from q.2).trans q2.2⟩
  cases hr : S.r 51 m with
  | some a =>
    rw [hr] at e
    exact main S a ⟨rfl, rfl, rfl, rfl⟩ hr (fun _ _ _ => rfl) (fun _ _ => ⟨rfl, rfl⟩) ⟨w1, w2, w3⟩ (fun i b hi hne h => fun z => hne (w2 i m a hi (by omega) (by rw [← z]; exact h) hr)) e
  | none =>
    rw [hr] at e
    have e' : ((f_X5_init N (CS.new S 0) (CS.hs S)).bind fun p5 => if ib (S.i 53) 400 then if oK p5.2 (CS.hs S) 0 then f_X6_push_48 N (CS.setR p5.2 51 m (some (CS.hs S))) x1 x2 x3 (S.i 53) (CS.hs S) else none else none) = some R := e
    unfold f_X5_init at e'
    rw [ob_some] at e'
    obtain ⟨-, e'⟩ := hf_ite e'
    obtain ⟨-, e'⟩ := hf_ite e'
    have fresh : ∀ i b : Nat, i < 400 → S.r 51 i = some b → b ≠ S.hs := fun i b hi h z => by
      have q := w3 b (w1 i b hi h).1
      omega
    have nr : ∀ k j : Nat, ¬ (k = 51 ∧ j = m) → (CS.setR (CS.new S 0) 51 m (some S.hs)).r k j = S.r k j := fun k j h => by
      show va_up S.r 51 (va_up (S.r 51) m (some S.hs)) k j = S.r k j
      unfold va_up
      by_cases c : k = 51
      · subst c
        rw [if_pos rfl, if_neg (fun z => h ⟨rfl, z⟩)]
      · rw [if_neg c]
    have nm : (CS.setR (CS.new S 0) 51 m (some S.hs)).r 51 m = some S.hs := by
      show va_up S.r 51 (va_up (S.r 51) m (some S.hs)) 51 m = some S.hs
      unfold va_up
      rw [if_pos rfl, if_pos rfl]
    have nL : (CS.setR (CS.new S 0) 51 m (some S.hs)).L = S.L ++ [S.hs] := rfl
    have nk : (CS.setR (CS.new S 0) 51 m (some S.hs)).k = va_up S.k S.hs 0 := rfl
    have nh : (CS.setR (CS.new S 0) 51 m (some S.hs)).hs = S.hs + 1 := rfl
    have no : ∀ b : Nat, b ≠ S.hs → (CS.setR (CS.new S 0) 51 m (some S.hs)).o b = S.o b ∧ (CS.setR (CS.new S 0) 51 m (some S.hs)).ol b = S.ol b := fun b hb => ⟨if_neg hb, if_neg hb⟩
    refine main (CS.setR (CS.new S 0) 51 m (some S.hs)) S.hs ⟨rfl, rfl, rfl, rfl⟩ nm nr no ⟨fun i b hi h => ?_, fun i j b hi hj h1 h2 => ?_, fun x hx => ?_⟩ (fun i b hi _ h => fresh i b hi h) e'
    · show b ∈ (CS.setR (CS.new S 0) 51 m (some S.hs)).L ∧ (CS.setR (CS.new S 0) 51 m (some S.hs)).k b = 0
      rw [nL, nk]
      by_cases c : i = m
      · subst c
        rw [nm] at h
        cases h
        exact ⟨List.mem_append_right _ List.mem_cons_self, if_pos rfl⟩
      · rw [nr 51 i (fun z => c z.2)] at h
        obtain ⟨q1, q2⟩ := w1 i b hi h
        exact ⟨List.mem_append_left _ q1, (if_neg (fresh i b hi h)).trans q2⟩
    · by_cases c : i = m
      · by_cases c2 : j = m
        · exact c.trans c2.symm
        · exfalso
          rw [nr 51 j (fun z => c2 z.2)] at h2
          rw [c, nm] at h1
          cases h1
          exact fresh j _ hj h2 rfl
      · by_cases c2 : j = m
        · exfalso
          rw [nr 51 i (fun z => c z.2)] at h1
          rw [c2, nm] at h2
          cases h2
          exact fresh i _ hi h1 rfl
        · rw [nr 51 i (fun z => c z.2)] at h1
          rw [nr 51 j (fun z => c2 z.2)] at h2
          exact w2 i j b hi hj h1 h2
    · rw [nL] at hx
      rw [nh]
      rcases List.mem_append.mp hx with z | z
      · have := w3 x z
        omega
      · rcases List.mem_cons.mp z with rfl | z
        · omega
        · exact absurd z List.not_mem_nil
/-- the rows are fewer than 381 -/
theorem RWI.few {d : Int32} {S : CS} {s : RS} (h : ENV d S s) : ∃ m : Nat, cnI S = (m : Int) ∧ m ≤ 380 := by
  have w := h.ri
  obtain ⟨-, -, -, ⟨w4, w5⟩, w6, w7, w8⟩ := w
  refine ⟨(cnI S).toNat, by omega, w6.bound ?_ ?_⟩
  · have a := (eI.ge S).2
    have b := (i11_hi h).2
    unfold plI at a
    rw [h.1.2.2.2.1.1] at a
    omega
  · have a := h.2.2.1
    unfold sgI at w8
    rw [a.1] at w8
    omega
