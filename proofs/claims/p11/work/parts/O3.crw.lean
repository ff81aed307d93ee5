/-! the class's reading: what stands while there is no fault -/
def tcI (s : CS) : Int := (s.i 21).toInt
def ccI (s : CS) : Int := (s.i 22).toInt
def plI (s : CS) : Int := (s.i 44).toInt
def nxI (s : CS) : Int := (s.i 42).toInt
def cnI (s : CS) : Int := (s.i 53).toInt
def sgI (s : CS) : Int := (s.i 34).toInt
def dsI (s : CS) : Int := (s.i 38).toInt
def nmI (s : CS) : Int := (s.i 50).toInt
noncomputable def eI (s : CS) : Int := plI s + (if (1 ≤ (s.i 43).toInt ∧ (s.i 43).toInt ≤ 5) ∨ 200 ≤ (s.i 43).toInt then 0 else 1)
theorem eI.al {s : CS} (h : ALN (s.i 43)) : eI s = plI s := by
  unfold ALN at h
  unfold eI
  rw [if_pos h]
  omega
theorem eI.sg {s : CS} (h : ¬ ALN (s.i 43)) : eI s = plI s + 1 := by
  unfold ALN at h
  unfold eI
  rw [if_neg h]
theorem eI.ge (s : CS) : plI s ≤ eI s ∧ eI s ≤ plI s + 1 := by
  by_cases h : ALN (s.i 43)
  · rw [eI.al h]; omega
  · rw [eI.sg h]; omega
/-- how far a token takes -/
theorem ADV.gain {s R : CS} (hl : LC s) (h : ADV s R) : plI s ≤ plI R ∧ (¬ s.i 43 = 0 → plI s + 1 ≤ plI R ∧ eI s ≤ eI R) ∧ (ALN (s.i 43) → plI s + 1 ≤ eI R) ∧ (s.i 43 = 2 → plI s + 2 ≤ eI R ∧ (¬ (97 ≤ s.l.toInt ∧ s.l.toInt ≤ 122) → plI s + 3 ≤ eI R)) ∧ ((200 ≤ (s.i 43).toInt ∨ (3 ≤ (s.i 43).toInt ∧ (s.i 43).toInt ≤ 5)) → plI s + 3 ≤ eI R ∧ plI s + 2 ≤ plI R ∧ (ALN (R.i 43) → plI s + 3 ≤ plI R)) ∧ ((128 ≤ (s.i 43).toInt ∧ (s.i 43).toInt ≤ 135) → plI s + 2 ≤ plI R ∧ eI s + 1 ≤ eI R) ∧ (s.i 43 = 218 ∨ s.i 43 = 219 → plI s + 4 ≤ plI R) := by
  obtain ⟨a1, a2, a3, a4, a5⟩ := h
  obtain ⟨b1, b2, b3, b4, b5, b6, b7, b8, b9⟩ := hl
  have a3 : nxI s ≤ plI R := a3
  have b2' : plI s ≤ nxI s := b2.2.1
  have g := eI.ge R
  have gs := eI.ge s
  have next : ALW (s.i 43) → nxI s + 1 ≤ eI R ∧ (ALN (R.i 43) → nxI s + 1 ≤ plI R) := fun q => by
    by_cases c : ALN (R.i 43)
    · have : nxI s + 1 ≤ plI R := a4 q c
      exact ⟨by omega, fun _ => this⟩
    · have := eI.sg c
      exact ⟨by omega, fun z => absurd z c⟩
  refine ⟨by omega, fun q => ?_, fun q => ?_, fun q => ?_, fun q => ?_, fun q => ?_, fun q => ?_⟩
  · have : plI s + 1 ≤ nxI s := b4 q
    refine ⟨by omega, ?_⟩
    omega
  · have n0 : ¬ s.i 43 = 0 := fun z => by unfold ALN at q; rw [z, z_t0] at q; omega
    have : plI s + 1 ≤ nxI s := b4 n0
    omega
  · have t2 : (2 : Int32).toInt = 2 := by decide
    have n0 : ¬ s.i 43 = 0 := fun z => by rw [q] at z; exact absurd z (by decide)
    have h1 : plI s + 1 ≤ nxI s := b4 n0
    have w : ALW (s.i 43) := Or.inl (by rw [q, t2]; omega)
    have h2 := (next w).1
    refine ⟨by omega, fun z => ?_⟩
    have : ¬ nxI s = plI s + 1 := fun y => z (b8 q y)
    omega
  · have w : ALW (s.i 43) := by unfold ALW; omega
    have h1 : plI s + 2 ≤ nxI s := b6 (by omega)
    have h2 := next w
    exact ⟨by omega, by omega, fun z => by have := h2.2 z; omega⟩
  · have h1 : plI s + 2 ≤ nxI s := b6 (Or.inr (Or.inr q))
    refine ⟨by omega, ?_⟩
    have na : ¬ ALN (s.i 43) := fun z => by unfold ALN at z; omega
    have := eI.sg na
    omega
  · have : plI s + 4 ≤ nxI s := b7 q
    omega
/-- a row's price in bytes -/
def cost (s : CS) (a : Nat) : Int := if s.o a 0 = 300 ∨ s.o a 0 = 301 then 0 else if s.o a 0 = 302 then 9 else if s.o a 0 = 303 ∧ 97 ≤ (s.ol a).toInt ∧ (s.ol a).toInt ≤ 122 then 2 else 3
/-- the signs that it keeps begun -/
def sgn (s : CS) (a : Nat) : Int := if s.o a 0 = 302 then 2 else if s.o a 0 = 301 ∨ s.o a 0 = 212 ∨ s.o a 0 = 218 ∨ s.o a 0 = 213 ∨ s.o a 0 = 215 ∨ s.o a 0 = 216 then 1 else 0
def rowA (s : CS) (i : Nat) : Nat := (s.r 51 i).getD 0
def WCS (s : CS) : Nat → Int
  | 0 => 0
  | n + 1 => WCS s n + cost s (rowA s n)
def SGS (s : CS) : Nat → Int
  | 0 => 0
  | n + 1 => SGS s n + sgn s (rowA s n)
def BLS (s : CS) : Nat → Int
  | 0 => 0
  | n + 1 => BLS s n + (if s.o (rowA s n) 0 = 301 then 1 else 0)
def AMS (s : CS) : Nat → Int
  | 0 => 0
  | n + 1 => AMS s n + (if s.o (rowA s n) 0 = 302 then 1 else 0)
/-- the labels of one letter since the last arm -/
def KLS (s : CS) : Nat → Nat → Bool
  | 0 => fun _ => false
  | n + 1 => if s.o (rowA s n) 0 = 302 then fun _ => false else if s.o (rowA s n) 0 = 303 ∧ 97 ≤ (s.ol (rowA s n)).toInt ∧ (s.ol (rowA s n)).toInt ≤ 122 then fun v => (v : Int) = (s.ol (rowA s n)).toInt - 97 || KLS s n v else KLS s n
def cnt (f : Nat → Bool) : Nat → Int
  | 0 => 0
  | n + 1 => cnt f n + (if f n = true then 1 else 0)
theorem cnt.le (f : Nat → Bool) : ∀ n : Nat, 0 ≤ cnt f n ∧ cnt f n ≤ n
  | 0 => by unfold cnt; omega
  | n + 1 => by
    have := cnt.le f n
    unfold cnt
    by_cases c : f n = true
    · rw [if_pos c]; omega
    · rw [if_neg c]; omega
theorem cnt.of {f g : Nat → Bool} : ∀ {n : Nat}, (∀ i : Nat, i < n → g i = f i) → cnt g n = cnt f n
  | 0, _ => rfl
  | n + 1, h => by
    unfold cnt
    rw [cnt.of (fun i hi => h i (by omega)), h n (by omega)]
theorem cnt.put {f g : Nat → Bool} {v : Nat} (hv : f v = false) (gv : g v = true) (hg : ∀ i : Nat, i ≠ v → g i = f i) : ∀ {n : Nat}, v < n → cnt g n = cnt f n + 1
  | 0, h => by omega
  | n + 1, h => by
    unfold cnt
    by_cases c : n = v
    · subst c
      rw [cnt.of (fun i hi => hg i (by omega)), gv, hv, if_pos rfl, if_neg (by decide)]
      omega
    · rw [cnt.put hv gv hg (n := n) (by omega), hg n c]
      omega
/-- rows that are the same -/
def RSQ (s R : CS) (n : Nat) : Prop := ∀ i : Nat, i < n → R.r 51 i = s.r 51 i ∧ ∀ a : Nat, s.r 51 i = some a → R.o a = s.o a ∧ R.ol a = s.ol a
theorem RSQ.lo {s R : CS} {n m : Nat} (h : RSQ s R n) (hm : m ≤ n) : RSQ s R m := fun i hi => h i (by omega)
theorem RSQ.rf (s : CS) (n : Nat) : RSQ s s n := fun _ _ => ⟨rfl, fun _ _ => ⟨rfl, rfl⟩⟩
theorem RSQ.tr {s R T : CS} {n : Nat} (h : RSQ s R n) (g : RSQ R T n) : RSQ s T n := fun i hi => ⟨(g i hi).1.trans (h i hi).1, fun a e => by
  have q := (h i hi).2 a e
  have q2 := (g i hi).2 a ((h i hi).1.trans e)
  exact ⟨q2.1.trans q.1, q2.2.trans q.2⟩⟩
/-- n rows are there -/
def NR (s : CS) (n : Nat) : Prop := ∀ i : Nat, i < n → ∃ a, s.r 51 i = some a
theorem RSQ.row {s R : CS} {n i : Nat} (h : RSQ s R n) (hn : NR s n) (hi : i < n) : rowA R i = rowA s i ∧ R.o (rowA s i) = s.o (rowA s i) ∧ R.ol (rowA s i) = s.ol (rowA s i) := by
  obtain ⟨a, e⟩ := hn i hi
  have q := h i hi
  have ea : rowA s i = a := by unfold rowA; rw [e]; rfl
  refine ⟨by unfold rowA; rw [q.1], ?_, ?_⟩
  · rw [ea]; exact (q.2 a e).1
  · rw [ea]; exact (q.2 a e).2
theorem RSQ.sums {s R : CS} : ∀ {n : Nat}, RSQ s R n → NR s n → WCS R n = WCS s n ∧ SGS R n = SGS s n ∧ BLS R n = BLS s n ∧ AMS R n = AMS s n ∧ KLS R n = KLS s n
  | 0, _, _ => ⟨rfl, rfl, rfl, rfl, rfl⟩
  | n + 1, h, hn => by
    obtain ⟨i1, i2, i3, i4, i5⟩ := RSQ.sums (h.lo (Nat.le_succ n)) (fun i hi => hn i (by omega))
    obtain ⟨r1, r2, r3⟩ := h.row hn (Nat.lt_succ_self n)
    refine ⟨?_, ?_, ?_, ?_, ?_⟩
    · unfold WCS cost; rw [i1, r1, r2, r3]
    · unfold SGS sgn; rw [i2, r1, r2]
    · unfold BLS; rw [i3, r1, r2]
    · unfold AMS; rw [i4, r1, r2]
    · unfold KLS; rw [i5, r1, r2, r3]
/-- so many rows can be paid -/
def IQ (s : CS) (n : Nat) : Prop := ∀ m : Nat, m ≤ n → 3 * (m : Int) ≤ WCS s m + 3 * BLS s m + 20 * AMS s m + cnt (KLS s m) 26 + 3
theorem IQ.of {s R : CS} {n : Nat} (h : IQ s n) (hs : RSQ s R n) (hn : NR s n) : IQ R n := fun m hm => by
  obtain ⟨i1, i2, i3, i4, i5⟩ := (hs.lo hm).sums (fun i hi => hn i (by omega))
  rw [i1, i3, i4, i5]
  exact h m hm
theorem BAS {s : CS} : ∀ n : Nat, BLS s n + 2 * AMS s n ≤ SGS s n ∧ 0 ≤ BLS s n ∧ 0 ≤ AMS s n ∧ 0 ≤ SGS s n ∧ 0 ≤ WCS s n
  | 0 => by unfold BLS AMS SGS WCS; omega
  | n + 1 => by
    obtain ⟨h1, h2, h3, h4, h5⟩ := BAS (s := s) n
    have e1 : (301 : Int32) ≠ 302 := by decide
    unfold BLS AMS SGS WCS sgn cost
    by_cases c2 : s.o (rowA s n) 0 = 302
    · rw [if_pos c2, if_pos c2, if_neg (by rw [c2]; decide), if_neg (by rw [c2]; decide), if_pos c2]
      omega
    · rw [if_neg c2, if_neg c2, if_neg c2]
      by_cases c1 : s.o (rowA s n) 0 = 301
      · rw [if_pos c1, if_pos (Or.inl c1), if_pos (Or.inr c1)]
        omega
      · rw [if_neg c1]
        have g1 : 0 ≤ (if s.o (rowA s n) 0 = 301 ∨ s.o (rowA s n) 0 = 212 ∨ s.o (rowA s n) 0 = 218 ∨ s.o (rowA s n) 0 = 213 ∨ s.o (rowA s n) 0 = 215 ∨ s.o (rowA s n) 0 = 216 then (1 : Int) else 0) := by
          by_cases q : s.o (rowA s n) 0 = 301 ∨ s.o (rowA s n) 0 = 212 ∨ s.o (rowA s n) 0 = 218 ∨ s.o (rowA s n) 0 = 213 ∨ s.o (rowA s n) 0 = 215 ∨ s.o (rowA s n) 0 = 216
          · rw [if_pos q]; omega
          · rw [if_neg q]; omega
        have g2 : 0 ≤ (if s.o (rowA s n) 0 = 300 ∨ s.o (rowA s n) 0 = 301 then (0 : Int) else if s.o (rowA s n) 0 = 303 ∧ 97 ≤ (s.ol (rowA s n)).toInt ∧ (s.ol (rowA s n)).toInt ≤ 122 then 2 else 3) := by
          by_cases q : s.o (rowA s n) 0 = 300 ∨ s.o (rowA s n) 0 = 301
          · rw [if_pos q]; omega
          · rw [if_neg q]
            by_cases q2 : s.o (rowA s n) 0 = 303 ∧ 97 ≤ (s.ol (rowA s n)).toInt ∧ (s.ol (rowA s n)).toInt ≤ 122
            · rw [if_pos q2]; omega
            · rw [if_neg q2]; omega
        omega
/-- the rows do not run out -/
theorem IQ.bound {s : CS} {n : Nat} (h : IQ s n) (hw : WCS s n ≤ 901) (hs : SGS s n ≤ 21) : n ≤ 380 := by
  have q := h n (Nat.le_refl _)
  have b := BAS (s := s) n
  have k := cnt.le (KLS s n) 26
  omega
