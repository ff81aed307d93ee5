/-! both readers: rows and frames side by side -/
/-- a row: its place, address, first frame, the goals and the walls below it -/
abbrev CEL : Type := Nat × Nat × Nat × Nat × Nat
def ceT (c : CEL) : Nat := c.2.2.1
def ceG (c : CEL) : Nat := c.2.2.2.1
def ceW (c : CEL) : Nat := c.2.2.2.2
def isOne (v : Int32) : Prop := v = 203 ∨ v = 204 ∨ v = 303 ∨ v = 205 ∨ v = 206 ∨ v = 207 ∨ v = 304
def isTy (v : Int32) : Prop := v = 213 ∨ v = 215 ∨ v = 305 ∨ v = 216
/-- a row that is no base -/
def isKS (v : Int32) : Prop := isOne v ∨ isTy v ∨ v = 301 ∨ v = 218 ∨ v = 212
def isGo (v : Int32) : Prop := v = 303 ∨ v = 218 ∨ v = 205 ∨ v = 206 ∨ v = 207 ∨ v = 304
def isWl (v : Int32) : Prop := v = 213 ∨ v = 215 ∨ v = 305
def wid (v : Int32) : Nat := if v = 301 ∨ v = 302 ∨ v = 218 then 2 else if v = 212 ∨ v = 213 ∨ v = 215 ∨ v = 216 then 3 else 1
def nGo (v : Int32) : Nat := if v = 303 ∨ v = 218 ∨ v = 205 ∨ v = 206 ∨ v = 207 ∨ v = 304 then 1 else 0
def nWl (v : Int32) : Nat := if v = 213 ∨ v = 215 ∨ v = 305 then 1 else 0
def nDp (v : Int32) : Nat := if v = 212 ∨ v = 213 ∨ v = 215 ∨ v = 305 ∨ v = 216 then 1 else 0
/-- the frames of a row, by its sort -/
def FBL (s : RS) (t : Nat) : Prop := s.a 64 t = 3 ∧ s.a 65 t = 1 ∧ s.a 64 (t + 1) = 1
def F301 (s : RS) (t : Nat) (v : Int32) : Prop := FBL s t ∧ s.a 66 t = v
def F302 (s : RS) (t : Nat) (v : Int32) : Prop := s.a 64 t = 19 ∧ s.a 65 t = 6 ∧ s.a 71 t = v ∧ s.a 64 (t + 1) = 1
def F303 (s : RS) (t g : Nat) (l : Int64) : Prop := s.a 64 t = 5 ∧ s.a 65 t = 1 ∧ (s.a 66 t).toInt = (g : Int) ∧ s.a 44 g = 2 ∧ s.b 45 g = l
def F203 (s : RS) (t : Nat) : Prop := s.a 64 t = 9 ∧ s.a 65 t = 2
def F204 (s : RS) (t : Nat) (v : Int32) : Prop := s.a 64 t = 9 ∧ s.a 65 t = 3 ∧ s.a 67 t = v ∧ (v = 0 ∨ v = 1)
def F205 (s : RS) (t g : Nat) (v : Int32) : Prop := s.a 64 t = 10 ∧ s.a 65 t = 2 ∧ (s.a 68 t).toInt = (g : Int) ∧ s.a 71 t = v ∧ s.a 44 g = 0
def F206 (s : RS) (t g : Nat) : Prop := s.a 64 t = 11 ∧ s.a 65 t = 1 ∧ (s.a 68 t).toInt = (g : Int) ∧ s.a 44 g = 0
def F207 (s : RS) (t g : Nat) (n v : Int32) : Prop := s.a 64 t = 12 ∧ s.a 65 t = 8 ∧ (s.a 73 t).toInt = (g : Int) ∧ s.a 71 t = n ∧ s.a 72 t = v ∧ s.a 44 g = 0
def F304 (s : RS) (t g : Nat) (n : Int32) : Prop := s.a 64 t = 12 ∧ s.a 65 t = 13 ∧ (s.a 73 t).toInt = (g : Int) ∧ s.a 71 t = n ∧ s.a 44 g = 0
def F212 (s : RS) (t : Nat) (n : Int32) : Prop := s.a 64 t = 13 ∧ s.a 65 t = 1 ∧ F301 s (t + 1) n
def F218 (s : RS) (t g : Nat) (n o : Int32) : Prop := s.a 64 t = 14 ∧ (s.a 72 t).toInt = (g : Int) ∧ s.a 71 t = n ∧ s.a 44 g = 1 ∧ (s.a 68 t = 0 ∨ s.a 68 t = 1) ∧ (s.a 68 t = 1 ↔ 0 ≤ o.toInt)
/-- a try: its record, whether it is whole, what it catches -/
def FTR (s : RS) (t g w : Nat) (v wh : Int32) : Prop := s.a 64 t = 15 ∧ (0 ≤ (s.a 66 t).toInt ∧ (s.a 66 t).toInt < (s.i 29).toInt) ∧ ((wh = 1 ↔ s.a 67 t = 1 ∨ 0 ≤ (s.a 72 t).toInt) ∧ (wh = 0 ∨ wh = 1)) ∧ (isWl v → s.a 57 w = s.a 66 t ∧ (s.a 58 w).toInt = (g : Int))
def FTS (s : RS) (t : Nat) (v n e : Int32) : Prop := (v = 213 → s.a 65 t = 1 ∧ F301 s (t + 1) n ∧ e = 0) ∧ (v = 215 → s.a 65 t = 3 ∧ FBL s (t + 1) ∧ s.a 71 t = n ∧ s.a 68 t = e) ∧ (v = 305 → s.a 65 t = 2 ∧ s.a 68 t = e) ∧ (v = 216 → s.a 65 t = 4 ∧ F301 s (t + 1) n ∧ s.a 68 t = e) ∧ (e = 0 ∨ e = 1)
def RFR (S : CS) (s : RS) (a t g w : Nat) : Prop := (S.o a 0 = 300 → s.a 64 t = 1) ∧ (S.o a 0 = 301 → F301 s t (S.o a 3)) ∧ (S.o a 0 = 302 → F302 s t (S.o a 3)) ∧ (S.o a 0 = 303 → F303 s t g (S.ol a)) ∧ (S.o a 0 = 203 → F203 s t) ∧ (S.o a 0 = 204 → F204 s t (S.o a 6)) ∧ (S.o a 0 = 205 → F205 s t g (S.o a 7)) ∧ (S.o a 0 = 206 → F206 s t g) ∧ (S.o a 0 = 207 → F207 s t g (S.o a 3) (S.o a 7)) ∧ (S.o a 0 = 304 → F304 s t g (S.o a 3) ∧ S.o a 7 = 0) ∧ (S.o a 0 = 212 → F212 s t (S.o a 3)) ∧ (S.o a 0 = 218 → F218 s t g (S.o a 3) (S.o a 11)) ∧ (isTy (S.o a 0) → FTR s t g w (S.o a 0) (S.o a 8) ∧ FTS s t (S.o a 0) (S.o a 3) (S.o a 6))
/-- how many of the entries are no default; how many of them stand before j -/
def nd (f : Nat → Int32) : List Nat → Nat
  | [] => 0
  | j :: L => nd f L + (if f j = 0 then 1 else 0)
def ndx (f : Nat → Int32) (j : Nat) : List Nat → Nat
  | [] => 0
  | i :: L => if i = j then 0 else ndx f j L + (if f i = 0 then 1 else 0)
theorem nd.eq {f g : Nat → Int32} : ∀ (L : List Nat), (∀ j ∈ L, f j = g j) → nd f L = nd g L
  | [], _ => rfl
  | j :: L, h => by
    show nd f L + (if f j = 0 then 1 else 0) = nd g L + (if g j = 0 then 1 else 0)
    rw [nd.eq L (fun i hi => h i (List.mem_cons_of_mem _ hi)), h j List.mem_cons_self]
theorem ndx.eq {f g : Nat → Int32} {j : Nat} : ∀ (L : List Nat), (∀ j ∈ L, f j = g j) → ndx f j L = ndx g j L
  | [], _ => rfl
  | i :: L, h => by
    show (if i = j then 0 else ndx f j L + (if f i = 0 then 1 else 0)) = (if i = j then 0 else ndx g j L + (if g i = 0 then 1 else 0))
    rw [ndx.eq L (fun k hk => h k (List.mem_cons_of_mem _ hk)), h i List.mem_cons_self]
theorem nd.app {f : Nat → Int32} : ∀ (L M : List Nat), nd f (L ++ M) = nd f L + nd f M
  | [], M => (Nat.zero_add _).symm
  | j :: L, M => by
    show nd f (L ++ M) + (if f j = 0 then 1 else 0) = (nd f L + (if f j = 0 then 1 else 0)) + nd f M
    rw [nd.app L M]
    omega
theorem ndx.app {f : Nat → Int32} {j : Nat} : ∀ (L M : List Nat), j ∈ L → ndx f j (L ++ M) = ndx f j L
  | [], _, h => absurd h List.not_mem_nil
  | i :: L, M, h => by
    show (if i = j then 0 else ndx f j (L ++ M) + (if f i = 0 then 1 else 0)) = (if i = j then 0 else ndx f j L + (if f i = 0 then 1 else 0))
    by_cases e : i = j
    · rw [if_pos e, if_pos e]
    · rw [if_neg e, if_neg e, ndx.app L M ((List.mem_cons.mp h).resolve_left (fun z => e z.symm))]
theorem ndx.new {f : Nat → Int32} {j : Nat} : ∀ (L : List Nat), ¬ j ∈ L → ndx f j (L ++ [j]) = nd f L
  | [], _ => if_pos rfl
  | i :: L, h => by
    show (if i = j then 0 else ndx f j (L ++ [j]) + (if f i = 0 then 1 else 0)) = nd f L + (if f i = 0 then 1 else 0)
    rw [if_neg (fun e => h (by rw [e]; exact List.mem_cons_self)), ndx.new L (fun z => h (List.mem_cons_of_mem _ z))]
theorem ndx.lt {f : Nat → Int32} {j : Nat} : ∀ (L : List Nat), j ∈ L → f j = 0 → ndx f j L < nd f L
  | [], h, _ => absurd h List.not_mem_nil
  | i :: L, h, hz => by
    show (if i = j then 0 else ndx f j L + (if f i = 0 then 1 else 0)) < nd f L + (if f i = 0 then 1 else 0)
    by_cases e : i = j
    · rw [if_pos e, e, if_pos hz]
      omega
    · rw [if_neg e]
      have := ndx.lt L ((List.mem_cons.mp h).resolve_left (fun z => e z.symm)) hz
      omega
theorem chn.uq {s : RS} : ∀ (L M : List Nat) (k : Int32), chn s k L → chn s k M → L = M
  | [], [], _, _, _ => rfl
  | [], j :: M, k, g, h => by
    have h1 := h.1
    have g1 : k.toInt < 0 := g
    omega
  | j :: L, [], k, g, h => by
    have h1 := g.1
    have g1 : k.toInt < 0 := h
    omega
  | j :: L, i :: M, k, g, h => by
    have e : j = i := by
      have := g.1
      have := h.1
      omega
    have h4 := h.2.2.2
    rw [← e] at h4
    rw [chn.uq L M _ g.2.2.2 h4, e]
/-- the numbers of a switch, from f up to m -/
def CSM (S : CS) (s : RS) (f m : Int) (L : List Nat) : Prop := 0 ≤ f ∧ (f ≤ m ∧ m = f + (nd (s.a 28) L : Int) ∧ ∀ i j : Nat, f ≤ (i : Int) → (i : Int) < m → j ∈ L → s.a 28 j = 0 → S.a 18 i = s.a 25 j → (i : Int) = f + (ndx (s.a 28) j L : Int)) ∧ ∀ v : Int32, (∃ i : Nat, f ≤ (i : Int) ∧ (i : Int) < m ∧ S.a 18 i = v) ↔ (∃ j ∈ L, s.a 28 j = 0 ∧ s.a 25 j = v)
/-- the kinds that a try catches -/
def kch (s : RS) : Int32 → List Nat → Prop
  | k, [] => k.toInt < 0
  | k, j :: L => k.toInt = (j : Int) ∧ (j : Int) < (s.i 33).toInt ∧ (∀ i ∈ L, j < i) ∧ kch s (s.a 37 j) L
def KMK (s : RS) (v : Int32) (L : List Nat) : Prop := (∀ k : Nat, k < 12 → (((v >>> Int32.ofNat k) &&& 1) = 1 ↔ ∃ j ∈ L, (s.a 34 j).toInt = (k : Int))) ∧ ∀ j ∈ L, 0 ≤ (s.a 34 j).toInt ∧ (s.a 34 j).toInt < 12
/-- a row, static: cases up to m, entries below e, catches below k; those of the rows below: m', e', k' -/
def CST (S : CS) (s : RS) (c : CEL) (m e k m' e' k' : Int) : Prop := S.r 51 c.1 = some c.2.1 ∧ c.1 < 400 ∧ RFR S s c.2.1 (ceT c) (ceG c) (ceW c) ∧
  (¬ S.o c.2.1 0 = 218 → m' = m ∧ e' = e) ∧ (S.o c.2.1 0 = 218 → m' = (S.o c.2.1 13).toInt ∧ e' ≤ e ∧ (0 ≤ (s.a 66 (ceT c)).toInt ∧ (s.a 66 (ceT c)).toInt < (s.i 20).toInt) ∧ ∃ L : List Nat, CSM S s m' m L ∧ chn s (s.a 22 (s.a 66 (ceT c)).toNatClampNeg) L ∧ FQL s (ceT c) L ∧ ∀ j ∈ L, e' ≤ (j : Int) ∧ (j : Int) < e) ∧
  (¬ isTy (S.o c.2.1 0) → k' = k) ∧ (isTy (S.o c.2.1 0) → k' ≤ k ∧ ∃ L : List Nat, kch s (s.a 30 (s.a 66 (ceT c)).toNatClampNeg) L ∧ KMK s (S.o c.2.1 12) L ∧ ((L = [] → (s.a 72 (ceT c)).toInt < 0) ∧ (∀ (L0 : List Nat) (j : Nat), L = L0 ++ [j] → (s.a 72 (ceT c)).toInt = (j : Int))) ∧ ∀ j ∈ L, k' ≤ (j : Int) ∧ (j : Int) < k)
/-- c stands right above c0 -/
def LNK (S : CS) (c c0 : CEL) : Prop := c.1 = c0.1 + 1 ∧ ceT c = ceT c0 + wid (S.o c0.2.1 0) ∧ ceG c = ceG c0 + nGo (S.o c0.2.1 0) ∧ ceW c = ceW c0 + nWl (S.o c0.2.1 0) ∧ (S.o c0.2.1 1).toInt < (S.o c.2.1 1).toInt ∧ (S.o c0.2.1 14).toInt ≤ (S.o c.2.1 14).toInt ∧ (S.o c0.2.1 0 = 216 → (S.o c0.2.1 15).toInt ≤ (S.o c.2.1 14).toInt) ∧ (isOne (S.o c0.2.1 0) → ¬ S.o c0.2.1 0 = 207 → ¬ S.o c0.2.1 0 = 304 → S.o c.2.1 3 = S.o c0.2.1 3) ∧ isKS (S.o c.2.1 0)
/-- a statement runs in it -/
def LOW (S : CS) (s : RS) (c : CEL) : Prop := ¬ S.o c.2.1 0 = 305 ∧ (S.o c.2.1 0 = 218 → s.a 65 (ceT c) = 3 ∧ s.a 64 (ceT c + 1) = 1) ∧ (¬ isOne (S.o c.2.1 0) → s.a 65 (ceT c + wid (S.o c.2.1 0) - 1) = 1 ∧ s.a 64 (ceT c + wid (S.o c.2.1 0) - 1) = 1) ∧ (isOne (S.o c.2.1 0) ∨ S.o c.2.1 0 = 218 → S.o c.2.1 5 = 1)
def STK (S : CS) (s : RS) : List CEL → Int → Int → Int → Prop
  | [], _, _, _ => True
  | c :: L, m, e, k => ∃ m' e' k' : Int, CST S s c m e k m' e' k' ∧ (∀ c0 ∈ L.head?, LNK S c c0 ∧ LOW S s c0) ∧ STK S s L m' e' k'
/-- the labels: x says what a label at the top must have -/
def LBC (S : CS) (s : RS) : List CEL → Int → Prop
  | [], _ => True
  | c :: L, x => if S.o c.2.1 0 = 303 then ((x = -9 ∨ (s.a 46 (ceG c)).toInt = x) ∧ LBC S s L (if x = -1 then -2 else x)) else if S.o c.2.1 0 = 205 ∨ S.o c.2.1 0 = 206 ∨ S.o c.2.1 0 = 207 ∨ S.o c.2.1 0 = 304 then LBC S s L (ceG c) else LBC S s L (-1)
/-- the flag of a goal -/
def flg (s : RS) (g : Nat) (b : Int) : Int32 := if b = 0 then s.a 50 g else s.a 51 g
/-- a record in the range of a try -/
def INR (S : CS) (q : CEL) (i : Nat) : Prop := (S.o q.2.1 14).toInt ≤ (i : Int) ∧ (S.o q.2.1 0 = 216 → (i : Int) < (S.o q.2.1 15).toInt)
def SAF (S : CS) (L : List CEL) (n i : Nat) : Prop := ∀ q ∈ L, isTy (S.o q.2.1 0) → n < q.1 → ¬ INR S q i
def RCD (S : CS) (c : CEL) (b : Int) (i : Nat) : Prop := (i : Int) < (S.i 55).toInt ∧ (S.a 52 i).toInt = 2 * (S.o c.2.1 1).toInt + b ∧ (S.o c.2.1 14).toInt ≤ (i : Int)
def PND (s : RS) (c q : CEL) (b : Int) (k : Nat) : Prop := (k : Int) < (s.i 59).toInt ∧ (s.a 60 k).toInt = (ceG c : Int) ∧ (¬ s.a 61 k = 0 ↔ b = 0) ∧ s.a 62 k = s.a 66 (ceT q)
def JMQ (S : CS) (s : RS) (L : List CEL) (B59 B29 : Int) : Prop :=
  (∀ c ∈ L, isGo (S.o c.2.1 0) → ∀ b : Int, b = 0 ∨ b = 1 → ∀ i : Nat, RCD S c b i → flg s (ceG c) b = 1 ∨ ∃ k : Nat, ∃ q ∈ L, isTy (S.o q.2.1 0) ∧ c.1 < q.1 ∧ PND s c q b k ∧ INR S q i) ∧
  (∀ c ∈ L, isGo (S.o c.2.1 0) → ∀ b : Int, b = 0 ∨ b = 1 → flg s (ceG c) b = 1 → ∃ i : Nat, RCD S c b i ∧ (S.o c.2.1 14).toInt ≤ (i : Int) ∧ SAF S L c.1 i) ∧
  (∀ k : Nat, (k : Int) < (s.i 59).toInt → ∀ q ∈ L, isTy (S.o q.2.1 0) → s.a 62 k = s.a 66 (ceT q) → ∃ c ∈ L, isGo (S.o c.2.1 0) ∧ c.1 < q.1 ∧ ∃ b : Int, (b = 0 ∨ b = 1) ∧ PND s c q b k ∧ ∃ i : Nat, RCD S c b i ∧ INR S q i ∧ SAF S L q.1 i) ∧
  (∀ k : Nat, B59 ≤ (k : Int) → (k : Int) < (s.i 59).toInt → s.a 62 k = -1 ∨ ∃ q ∈ L, isTy (S.o q.2.1 0) ∧ s.a 62 k = s.a 66 (ceT q)) ∧
  (∀ q ∈ L, isTy (S.o q.2.1 0) → B29 ≤ (s.a 66 (ceT q)).toInt) ∧ (∀ q ∈ L, ∀ p ∈ L, isTy (S.o q.2.1 0) → isTy (S.o p.2.1 0) → q.1 < p.1 → (s.a 66 (ceT q)).toInt < (s.a 66 (ceT p)).toInt) ∧
  (∀ c ∈ L, 0 < (S.o c.2.1 1).toInt ∧ (S.o c.2.1 1).toInt ≤ (S.i 54).toInt ∧ 0 ≤ (S.o c.2.1 14).toInt ∧ (S.o c.2.1 14).toInt ≤ (S.i 55).toInt ∧ (S.o c.2.1 0 = 216 → (S.o c.2.1 14).toInt ≤ (S.o c.2.1 15).toInt ∧ (S.o c.2.1 15).toInt ≤ (S.i 55).toInt)) ∧
  ((∀ i : Nat, (i : Int) < (S.i 55).toInt → (∃ c ∈ L, (S.o c.2.1 14).toInt ≤ (i : Int)) → (S.a 52 i).toInt ≤ 2 * (S.i 54).toInt + 1) ∧ (∀ c ∈ L, isGo (S.o c.2.1 0) → ∀ b : Int, flg s (ceG c) b = 0 ∨ flg s (ceG c) b = 1))
