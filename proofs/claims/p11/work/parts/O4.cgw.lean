/-! the class's reading: the code is typed while it grows -/
/-- a target that may be jumped to -/
def TTc (tc : Int) (DT : Nat → List Nat) (KT : Nat → Prop) (t : Int32) (d : List Nat) : Prop := 0 ≤ t.toInt ∧ t.toInt < tc ∧ DT t.toInt.toNat = d ∧ ¬ KT t.toInt.toNat
/-- the target of a try's finally -/
def KTc (tc : Int) (DT : Nat → List Nat) (KT : Nat → Prop) (t : Int32) (d : List Nat) : Prop := 0 ≤ t.toInt ∧ t.toInt < tc ∧ DT t.toInt.toNat = d ∧ KT t.toInt.toNat
def IOK (tc : Int) (DT : Nat → List Nat) (KT : Nat → Prop) (o x : Int32) (c c' : List Nat) : Prop :=
  (o.toInt < 30 → c' = c) ∧
  (o.toInt = 30 → TTc tc DT KT x c) ∧
  (31 ≤ o.toInt → o.toInt ≤ 35 → TTc tc DT KT x c ∧ c' = c) ∧
  (36 ≤ o.toInt → o.toInt < 50 → c' = c) ∧
  ((o.toInt = 51 ∨ o.toInt = 52 ∨ o.toInt = 55 ∨ o.toInt = 57) → c' = c) ∧
  (o.toInt = 53 → c' = 0 :: c) ∧
  (o.toInt = 54 → c' = 1 :: c ∧ TTc tc DT KT x (2 :: c) ∧ KTc tc DT KT (x + 1) (3 :: c)) ∧
  (o.toInt = 56 → TTc tc DT KT (x / 16) c ∧ c' = c) ∧
  (o.toInt = 58 → ∃ r, c = 2 :: r) ∧
  (o.toInt = 59 → ∃ r, c = 3 :: r) ∧
  (o.toInt = 60 ∨ o.toInt = 61 → ∃ g : Nat, (x - x / 32 * 32).toInt = (g : Int) ∧ g ≤ c.length ∧ TTc tc DT KT (x / 32) (c.drop (c.length - g))) ∧
  (o.toInt = 64 → AT2 c x) ∧
  o.toInt ≤ 64
def CDT (s : CS) (D DT : Nat → List Nat) (KT : Nat → Prop) : Prop := ∀ p : Nat, p < 1200 → (p : Int) < szI s → IOK (tcI s) DT KT (s.a 15 p) (s.a 16 p) (D p) (D (p + 1)) ∧ (D p).length ≤ 21
def TGS (s : CS) (D DT : Nat → List Nat) : Prop := ∀ t : Nat, (t : Int) < tcI s → (s.a 17 t).toInt = -1 ∨ (0 ≤ (s.a 17 t).toInt ∧ (s.a 17 t).toInt ≤ szI s ∧ D (s.a 17 t).toInt.toNat = DT t)
/-- what an begun row will aim -/
def OWS (s : CS) (a t : Nat) : Prop := (¬ s.o a 0 = 300 ∧ ¬ s.o a 0 = 301 ∧ ¬ s.o a 0 = 302 ∧ ¬ s.o a 0 = 203 ∧ (s.o a 9).toInt = (t : Int)) ∨ ((s.o a 0 = 203 ∨ s.o a 0 = 206 ∨ s.o a 0 = 218 ∨ s.o a 0 = 213 ∨ s.o a 0 = 215) ∧ (s.o a 10).toInt = (t : Int))
/-- an begun row will aim it -/
def OWN (s : CS) (t : Nat) : Prop := ∃ i a : Nat, (i : Int) < cnI s ∧ s.r 51 i = some a ∧ OWS s a t
def UNA (s : CS) (KT : Nat → Prop) (P : List Nat) : Prop := ∀ t : Nat, (t : Int) < tcI s → ¬ KT t → (s.a 17 t).toInt = -1 → t ∈ P ∨ OWN s t
/-- a name's frame: none, or one that is in its catches -/
def NMT (x : Int32) (c : List Nat) : Prop := x.toInt < 0 ∨ AT2 c x
/-- the entries that the rows up to here own -/
def lmh (L : List Int) : Int := L.headD 0
/-- an begun row: c0 around it, c in it -/
def ROW1 (s : CS) (DT : Nat → List Nat) (KT : Nat → Prop) (a : Nat) (c0 c : List Nat) (lim lim' : List Int) : Prop :=
  (s.o a 2).toInt = (c0.length : Int) ∧ (∀ n : Nat, (n : Int) < (s.o a 3).toInt → NMT (s.a 49 n) c0) ∧
  ((s.o a 0 = 300 ∨ s.o a 0 = 301) ∧ c = c0 ∧ lim' = lim ∨
   s.o a 0 = 302 ∧ c = c0 ∧ TTc (tcI s) DT KT (s.o a 9) c0 ∧ (∃ v : Int, lim = v :: v :: lim' ∧ lmh lim' ≤ v) ∨
   s.o a 0 = 203 ∧ c = c0 ∧ TTc (tcI s) DT KT (s.o a 10) c0 ∧ lim' = lim ∨
   (s.o a 0 = 204 ∨ s.o a 0 = 303) ∧ c = c0 ∧ TTc (tcI s) DT KT (s.o a 9) c0 ∧ lim' = lim ∨
   (s.o a 0 = 205 ∨ s.o a 0 = 207 ∨ s.o a 0 = 304) ∧ c = c0 ∧ TTc (tcI s) DT KT (s.o a 9) c0 ∧ TTc (tcI s) DT KT (s.o a 10) c0 ∧ lim' = lim ∨
   s.o a 0 = 206 ∧ c = c0 ∧ TTc (tcI s) DT KT (s.o a 9) c0 ∧ TTc (tcI s) DT KT (s.o a 10) c0 ∧ TTc (tcI s) DT KT (s.o a 11) c0 ∧ lim' = lim ∨
   s.o a 0 = 218 ∧ c = c0 ∧ TTc (tcI s) DT KT (s.o a 9) c0 ∧ TTc (tcI s) DT KT (s.o a 10) c0 ∧ ((s.o a 11).toInt < 0 ∨ TTc (tcI s) DT KT (s.o a 11) c0) ∧ (∃ (l : Int) (T : List Int), lim = l :: T ∧ lim' = (s.o a 13).toInt :: T ∧ (s.o a 13).toInt ≤ l ∧ (∀ i : Nat, (s.o a 13).toInt ≤ (i : Int) → (i : Int) < l → TTc (tcI s) DT KT (s.a 19 i) c0)) ∨
   s.o a 0 = 212 ∧ c = 0 :: c0 ∧ TTc (tcI s) DT KT (s.o a 9) c0 ∧ lim' = lim ∨
   s.o a 0 = 213 ∧ c = 1 :: c0 ∧ TTc (tcI s) DT KT (s.o a 9) c0 ∧ TTc (tcI s) DT KT (s.o a 10) (2 :: c0) ∧ KTc (tcI s) DT KT (s.o a 11) (3 :: c0) ∧ lim' = lim ∨
   s.o a 0 = 215 ∧ c = 2 :: c0 ∧ TTc (tcI s) DT KT (s.o a 9) c0 ∧ TTc (tcI s) DT KT (s.o a 10) (2 :: c0) ∧ KTc (tcI s) DT KT (s.o a 11) (3 :: c0) ∧ lim' = lim ∨
   s.o a 0 = 305 ∧ c = 2 :: c0 ∧ TTc (tcI s) DT KT (s.o a 9) c0 ∧ KTc (tcI s) DT KT (s.o a 11) (3 :: c0) ∧ lim' = lim ∨
   s.o a 0 = 216 ∧ c = 3 :: c0 ∧ TTc (tcI s) DT KT (s.o a 9) c0 ∧ lim' = lim)
/-- an arm's sign for its choice -/
def arx (s : CS) (a : Nat) : Int := if s.o a 0 = 302 then 1 else 0
theorem arx.nn (s : CS) (a : Nat) : 0 ≤ arx s a := by
  unfold arx
  by_cases q : s.o a 0 = 302
  · rw [if_pos q]; decide
  · rw [if_neg q]; decide
/-- the begun rows -/
def RCH (s : CS) (DT : Nat → List Nat) (KT : Nat → Prop) : Nat → List Nat → List Int → Prop
  | 0, c, lim => c = [] ∧ ∃ l : Int, lim = [l] ∧ 0 ≤ l
  | n + 1, c, lim => ∃ (a : Nat) (c0 : List Nat) (lim' : List Int), s.r 51 n = some a ∧ (c0.length : Int) ≤ SGS s n + arx s a ∧ ROW1 s DT KT a c0 c lim lim' ∧ RCH s DT KT n c0 lim'
/-- the rows' names rise -/
def NMB (s : CS) : Prop := ∀ i a : Nat, (i : Int) < cnI s → s.r 51 i = some a → (s.o a 3).toInt ≤ nmI s ∧ ∀ j b : Nat, i < j → (j : Int) < cnI s → s.r 51 j = some b → (s.o a 3).toInt ≤ (s.o b 3).toInt
theorem NMB.of {s R : CS} (h : NMB s) (hc : cnI R = cnI s) (hn : nmI R = nmI s) (hr : ∀ i a : Nat, (i : Int) < cnI s → R.r 51 i = some a → s.r 51 i = some a ∧ R.o a = s.o a) : NMB R := fun i a hi e => by
  rw [hc] at hi
  have q := hr i a hi e
  have z := h i a hi q.1
  rw [hn, q.2]
  refine ⟨z.1, fun j b y1 y2 y3 => ?_⟩
  rw [hc] at y2
  have w := hr j b y2 y3
  rw [w.2]
  exact z.2 j b y1 y2 w.1
/-- what stands while there is no fault: cD behind the code, c in the rows, X the targets that the running methods know, P those that they will aim -/
def GW (cD c : List Nat) (X : List (Nat × List Nat)) (P : List Nat) (lim : List Int) (s : CS) : Prop := ∃ (D DT : Nat → List Nat) (KT : Nat → Prop), CDT s D DT KT ∧ TGS s D DT ∧ UNA s KT P ∧ (0 ≤ szI s ∧ D (szI s).toNat = cD ∧ D 0 = []) ∧ (∀ q ∈ X, (q.1 : Int) < tcI s ∧ DT q.1 = q.2 ∧ ¬ KT q.1) ∧ (∃ n : Nat, (n : Int) = cnI s ∧ n ≤ 400 ∧ RCH s DT KT n c lim) ∧ (∀ n : Nat, (n : Int) < nmI s → NMT (s.a 49 n) c) ∧ 0 ≤ tcI s ∧ lmh lim ≤ ccI s ∧ NMB s
theorem TTc.mono {tc tc' : Int} {DT DT' : Nat → List Nat} {KT KT' : Nat → Prop} {t : Int32} {d : List Nat} (h : TTc tc DT KT t d) (ht : tc ≤ tc') (hd : ∀ k : Nat, (k : Int) < tc → DT' k = DT k ∧ (KT' k ↔ KT k)) : TTc tc' DT' KT' t d := by
  obtain ⟨h1, h2, h3, h4⟩ := h
  have q := hd t.toInt.toNat (by omega)
  exact ⟨h1, by omega, by rw [q.1]; exact h3, fun z => h4 (q.2.mp z)⟩
theorem KTc.mono {tc tc' : Int} {DT DT' : Nat → List Nat} {KT KT' : Nat → Prop} {t : Int32} {d : List Nat} (h : KTc tc DT KT t d) (ht : tc ≤ tc') (hd : ∀ k : Nat, (k : Int) < tc → DT' k = DT k ∧ (KT' k ↔ KT k)) : KTc tc' DT' KT' t d := by
  obtain ⟨h1, h2, h3, h4⟩ := h
  have q := hd t.toInt.toNat (by omega)
  exact ⟨h1, by omega, by rw [q.1]; exact h3, q.2.mpr h4⟩
theorem IOK.mono {tc tc' : Int} {DT DT' : Nat → List Nat} {KT KT' : Nat → Prop} {o x : Int32} {c c' : List Nat} (h : IOK tc DT KT o x c c') (ht : tc ≤ tc') (hd : ∀ k : Nat, (k : Int) < tc → DT' k = DT k ∧ (KT' k ↔ KT k)) : IOK tc' DT' KT' o x c c' := by
  obtain ⟨h1, h2, h3, h4, h5, h6, h7, h8, h9, h10, h11, h12, h13⟩ := h
  refine ⟨h1, fun q => (h2 q).mono ht hd, fun q r => ⟨((h3 q r).1).mono ht hd, (h3 q r).2⟩, h4, h5, h6, fun q => ⟨(h7 q).1, (h7 q).2.1.mono ht hd, (h7 q).2.2.mono ht hd⟩, fun q => ⟨(h8 q).1.mono ht hd, (h8 q).2⟩, h9, h10, fun q => ?_, h12, h13⟩
  obtain ⟨g, g1, g2, g3⟩ := h11 q
  exact ⟨g, g1, g2, g3.mono ht hd⟩
/-- what a row's typing looks at -/
def RW9 (s R : CS) (a : Nat) (lim : List Int) : Prop := R.o a = s.o a ∧ tcI s ≤ tcI R ∧ (∀ n : Nat, (n : Int) < (s.o a 3).toInt → R.a 49 n = s.a 49 n) ∧ (∀ i : Nat, (i : Int) < lmh lim → R.a 19 i = s.a 19 i) ∧ (∀ t : Nat, (t : Int) < tcI s → 0 ≤ (s.a 17 t).toInt → 0 ≤ (R.a 17 t).toInt)
theorem ROW1.mono {s R : CS} {DT DT' : Nat → List Nat} {KT KT' : Nat → Prop} {a : Nat} {c0 c : List Nat} {lim lim' : List Int} (h : ROW1 s DT KT a c0 c lim lim') (hr : RW9 s R a lim) (hd : ∀ k : Nat, (k : Int) < tcI s → DT' k = DT k ∧ (KT' k ↔ KT k)) : ROW1 R DT' KT' a c0 c lim lim' := by
  obtain ⟨e, ht, hn, hc, ha⟩ := hr
  obtain ⟨h1, h2, h3⟩ := h
  have tm : ∀ {t : Int32} {d : List Nat}, TTc (tcI s) DT KT t d → TTc (tcI R) DT' KT' t d := fun q => q.mono ht hd
  have km : ∀ {t : Int32} {d : List Nat}, KTc (tcI s) DT KT t d → KTc (tcI R) DT' KT' t d := fun q => q.mono ht hd
  refine ⟨by rw [e]; exact h1, fun n q => by rw [e] at q; rw [hn n q]; exact h2 n q, ?_⟩
  rw [e]
  rcases h3 with z | ⟨z1, z2, z3, z4⟩ | ⟨z1, z2, z3, z4⟩ | ⟨z1, z2, z3, z4⟩ | ⟨z1, z2, z3, z4, z5⟩ | ⟨z1, z2, z3, z4, z5, z6⟩ | ⟨z1, z2, z3, z4, z5, l, T, y1, y2, y3, y4⟩ | ⟨z1, z2, z3, z4⟩ | ⟨z1, z2, z3, z4, z5, z6⟩ | ⟨z1, z2, z3, z4, z5, z6⟩ | ⟨z1, z2, z3, z4, z5⟩ | ⟨z1, z2, z3, z4⟩
  · exact Or.inl z
  · exact Or.inr (Or.inl ⟨z1, z2, tm z3, z4⟩)
  · exact Or.inr (Or.inr (Or.inl ⟨z1, z2, tm z3, z4⟩))
  · exact Or.inr (Or.inr (Or.inr (Or.inl ⟨z1, z2, tm z3, z4⟩)))
  · exact Or.inr (Or.inr (Or.inr (Or.inr (Or.inl ⟨z1, z2, tm z3, tm z4, z5⟩))))
  · exact Or.inr (Or.inr (Or.inr (Or.inr (Or.inr (Or.inl ⟨z1, z2, tm z3, tm z4, tm z5, z6⟩)))))
  · refine Or.inr (Or.inr (Or.inr (Or.inr (Or.inr (Or.inr (Or.inl ⟨z1, z2, tm z3, tm z4, ?_, l, T, y1, y2, y3, fun i q1 q2 => ?_⟩))))))
    · rcases z5 with z5 | z5
      · exact Or.inl z5
      · exact Or.inr (tm z5)
    · rw [hc i (by rw [y1]; exact q2)]; exact tm (y4 i q1 q2)
  · exact Or.inr (Or.inr (Or.inr (Or.inr (Or.inr (Or.inr (Or.inr (Or.inl ⟨z1, z2, tm z3, z4⟩)))))))
  · exact Or.inr (Or.inr (Or.inr (Or.inr (Or.inr (Or.inr (Or.inr (Or.inr (Or.inl ⟨z1, z2, tm z3, tm z4, km z5, z6⟩))))))))
  · exact Or.inr (Or.inr (Or.inr (Or.inr (Or.inr (Or.inr (Or.inr (Or.inr (Or.inr (Or.inl ⟨z1, z2, tm z3, tm z4, km z5, z6⟩)))))))))
  · exact Or.inr (Or.inr (Or.inr (Or.inr (Or.inr (Or.inr (Or.inr (Or.inr (Or.inr (Or.inr (Or.inl ⟨z1, z2, tm z3, km z4, z5⟩))))))))))
  · exact Or.inr (Or.inr (Or.inr (Or.inr (Or.inr (Or.inr (Or.inr (Or.inr (Or.inr (Or.inr (Or.inr ⟨z1, z2, tm z3, z4⟩))))))))))
theorem ROW1.lim {s : CS} {DT : Nat → List Nat} {KT : Nat → Prop} {a : Nat} {c0 c : List Nat} {lim lim' : List Int} (h : ROW1 s DT KT a c0 c lim lim') : lmh lim' ≤ lmh lim := by
  obtain ⟨h1, h2, h3⟩ := h
  rcases h3 with ⟨z1, z2, e⟩ | ⟨z1, z2, z3, v, e1, e2⟩ | ⟨z1, z2, z3, e⟩ | ⟨z1, z2, z3, e⟩ | ⟨z1, z2, z3, z4, e⟩ | ⟨z1, z2, z3, z4, z5, e⟩ | ⟨z1, z2, z3, z4, z5, l, T, y1, y2, y3, y4⟩ | ⟨z1, z2, z3, e⟩ | ⟨z1, z2, z3, z4, z5, e⟩ | ⟨z1, z2, z3, z4, z5, e⟩ | ⟨z1, z2, z3, z4, e⟩ | ⟨z1, z2, z3, e⟩
  · rw [e]; exact Int.le_refl _
  · rw [e1]; exact e2
  · rw [e]; exact Int.le_refl _
  · rw [e]; exact Int.le_refl _
  · rw [e]; exact Int.le_refl _
  · rw [e]; exact Int.le_refl _
  · rw [y1, y2]; exact y3
  · rw [e]; exact Int.le_refl _
  · rw [e]; exact Int.le_refl _
  · rw [e]; exact Int.le_refl _
  · rw [e]; exact Int.le_refl _
  · rw [e]; exact Int.le_refl _
theorem RCH.mono {s R : CS} {DT DT' : Nat → List Nat} {KT KT' : Nat → Prop} (ht : tcI s ≤ tcI R) (hd : ∀ k : Nat, (k : Int) < tcI s → DT' k = DT k ∧ (KT' k ↔ KT k)) (ha : ∀ t : Nat, (t : Int) < tcI s → 0 ≤ (s.a 17 t).toInt → 0 ≤ (R.a 17 t).toInt) : ∀ {n : Nat} {c : List Nat} {lim : List Int}, RCH s DT KT n c lim → RSQ s R n → (∀ m : Nat, (m : Int) < lmh lim → R.a 19 m = s.a 19 m) → (∀ i a : Nat, i < n → s.r 51 i = some a → ∀ m : Nat, (m : Int) < (s.o a 3).toInt → R.a 49 m = s.a 49 m) → NR s n → RCH R DT' KT' n c lim
  | 0, _, _, h, _, _, _, _ => h
  | n + 1, c, lim, h, hs, hc, hn, nr => by
    obtain ⟨a, c0, lim', h1, h2, h3, h4⟩ := h
    have q := hs n (Nat.lt_succ_self n)
    have hl := h3.lim
    refine ⟨a, c0, lim', q.1.trans h1, ?_, h3.mono ⟨(q.2 a h1).1, ht, fun m hm => hn n a (Nat.lt_succ_self n) h1 m hm, hc, ha⟩ hd, RCH.mono ht hd ha h4 (hs.lo (Nat.le_succ n)) (fun m hm => hc m (by omega)) (fun i a' hi => hn i a' (by omega)) (fun i hi => nr i (by omega))⟩
    rw [((hs.lo (Nat.le_succ n)).sums (fun i hi => nr i (by omega))).2.1]
    have ax : arx R a = arx s a := by unfold arx; rw [(q.2 a h1).1]
    rw [ax]
    exact h2
theorem RCH.nr {s : CS} {DT : Nat → List Nat} {KT : Nat → Prop} : ∀ {n : Nat} {c : List Nat} {lim : List Int}, RCH s DT KT n c lim → NR s n
  | 0, _, _, _, i, hi => by omega
  | n + 1, _, _, ⟨a, c0, lim', h1, h2, h3, h4⟩, i, hi => by
    by_cases e : i = n
    · exact ⟨a, by rw [e]; exact h1⟩
    · exact RCH.nr h4 i (by omega)
