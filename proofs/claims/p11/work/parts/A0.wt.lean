/-! the typing of the reference's code -/
/-- a record that is expected: sort, what it names, phase (or how many), height, opens, level -/
def Rec : Type := Nat × Nat × Nat × Nat × Nat × Nat × Bool × Bool
def Rec.k (r : Rec) : Nat := r.1
def Rec.a (r : Rec) : Nat := r.2.1
def Rec.p (r : Rec) : Nat := r.2.2.1
def Rec.h (r : Rec) : Nat := r.2.2.2.1
def Rec.o (r : Rec) : Nat := r.2.2.2.2.1
def Rec.v (r : Rec) : Nat := r.2.2.2.2.2.1
/-- a try's: whether its finally can end; whether its end is reached -/
def Rec.ps (r : Rec) : Bool := r.2.2.2.2.2.2.1
def Rec.ek (r : Rec) : Bool := r.2.2.2.2.2.2.2
/-- a try's record in another phase -/
def Rec.ph (r : Rec) (p : Nat) : Rec := (r.k, r.a, p, r.h, r.o, r.v, r.ps, r.ek)
/-- what is expected at a place: height, opens (at most), level, whether 1 lies on top, records -/
def Ctx : Type := Nat × Nat × Nat × Bool × List Rec
def Ctx.h (c : Ctx) : Nat := c.1
def Ctx.o (c : Ctx) : Nat := c.2.1
def Ctx.v (c : Ctx) : Nat := c.2.2.1
def Ctx.one (c : Ctx) : Bool := c.2.2.2.1
def Ctx.rs (c : Ctx) : List Rec := c.2.2.2.2
/-- what waits: the rows' values -/
def wv : List Rec → Nat
  | [] => 0
  | r :: rs => (if r.k = 2 then r.p else 0) + wv rs
/-- how many are begun at most: outside a try's body as many as at the record's making -/
def oOK : Nat → List Rec → Prop
  | o, [] => o = 0
  | o, r :: rs => (r.k = 4 ∧ r.p = 0 ∨ o = r.o) ∧ oOK r.o rs
def gv (σ : RS) (k i : Nat) : Int := (σ.a k i).toInt
def cdI (σ : RS) : Int := (σ.i 20).toInt
/-- ghosts: the typing; which slots are caught names' -/
def Gh : Type := (Nat → Ctx → Prop) × (Nat → Bool)
def Gh.T (g : Gh) : Nat → Ctx → Prop := g.1
def Gh.isC (g : Gh) : Nat → Bool := g.2
/-- x is a place where this is expected, at a lower level than v, or not before kk -/
def FL (σ : RS) (g : Gh) (v : Nat) (kk x : Int) (h o : Nat) (rs : List Rec) : Prop := 0 ≤ x ∧ x ≤ cdI σ ∧ (x < cdI σ → ∃ c, g.T x.toNat c ∧ c.h = h ∧ o ≤ c.o ∧ c.one = false ∧ c.rs = rs ∧ (c.v < v ∨ c.v ≤ v ∧ kk ≤ x))
/-- the same behind a step: any level -/
def FS (σ : RS) (g : Gh) (x : Int) (h o : Nat) (rs : List Rec) : Prop := 0 ≤ x ∧ x ≤ cdI σ ∧ (x < cdI σ → ∃ c, g.T x.toNat c ∧ c.h = h ∧ o ≤ c.o ∧ c.one = false ∧ c.rs = rs)
/-- behind a push of y: one may be known -/
def FP (σ : RS) (g : Gh) (k v : Nat) (y : Int) (h o : Nat) (rs : List Rec) : Prop := (k : Int) + 1 ≤ cdI σ ∧ ((k : Int) + 1 < cdI σ → ∃ c, g.T (k + 1) c ∧ c.h = h ∧ o ≤ c.o ∧ (c.one = true → y = 1) ∧ c.rs = rs ∧ c.v ≤ v)
/-- whether what leaves to depth d gets through all finallys on its way -/
def arr (σ : RS) (g : Gh) (d : Nat) : List Rec → Prop
  | [] => True
  | r :: rs => rs.length + 1 ≤ d ∨ ((r.k = 4 → r.p < 2 → 0 ≤ gv σ 31 r.a → r.ps = true) ∧ arr σ g d rs)
def oA (d : Nat) (o : Nat) : List Rec → Nat
  | [] => o
  | r :: rs => if rs.length + 1 ≤ d then o else oA d r.o rs
def dA (d : Nat) : List Rec → List Rec
  | [] => []
  | r :: rs => if rs.length + 1 ≤ d then r :: rs else dA d rs
/-- what is left on the way to depth d: no arms; tries at the height h; the target x at level v' comes behind each try's end, or lies lower -/
def lvA (σ : RS) (d h v' : Nat) (x : Int) : List Rec → Prop
  | [] => True
  | r :: rs => rs.length + 1 ≤ d ∨ (r.k ≠ 3 ∧ (r.k = 4 → r.h = h ∧ (v' < r.v ∨ v' ≤ r.v ∧ gv σ 32 r.a ≤ x)) ∧ lvA σ d h v' x rs)
/-- a jump that leaves: to x, depth d; its target lies lower than level v, or at kk or behind -/
def JMP (σ : RS) (g : Gh) (v : Nat) (kk x : Int) (d h o : Nat) (rs : List Rec) : Prop := d ≤ rs.length ∧ ∃ v' : Nat, (v' < v ∨ v' ≤ v ∧ kk ≤ x) ∧ lvA σ d h v' x rs ∧ (arr σ g d rs → 0 ≤ x ∧ x ≤ cdI σ ∧ (x < cdI σ → ∃ c, g.T x.toNat c ∧ c.h = h ∧ oA d o rs ≤ c.o ∧ c.one = false ∧ c.rs = dA d rs ∧ c.v = v'))
/-- a yield to depth d finds its arms there -/
def YOK (d : Int) (rs : List Rec) : Prop := 1 ≤ d ∧ ∃ (r : Rec) (q : List Rec), dA d.toNat rs = r :: q ∧ r.k = 3 ∧ d.toNat = q.length + 1
/-- the chain of a try's catches -/
def catchIn (σ : RS) (j : Nat) : Nat → Int → Prop
  | 0, _ => False
  | n+1, k => 0 ≤ k ∧ (k = (j : Int) ∨ catchIn σ j n (gv σ 37 k.toNat))
/-- a record stands as it should at place k, level v: where a throw, a yield, an end goes from it -/
def recOK (σ : RS) (g : Gh) (k v : Nat) (r : Rec) (rs : List Rec) : Prop :=
  r.h ≤ 1300 ∧ r.o ≤ 450 ∧
  (r.k = 1 ∧ r.a < 8 ∨
   r.k = 2 ∨
   r.k = 3 ∧ (r.a : Int) < cdI σ ∧ FL σ g v ((k : Int) + 1) (gv σ 23 r.a) (r.h + 1) r.o rs ∨
   r.k = 4 ∧ (r.a : Int) < (σ.i 29).toInt ∧ r.p ≤ 2 ∧ r.v ≤ v ∧ (k : Int) < gv σ 32 r.a ∧
    (r.p = 0 → ∀ j : Nat, catchIn σ j 400 (gv σ 30 r.a) → 0 ≤ gv σ 36 j ∧ gv σ 36 j < 460 ∧ g.isC (gv σ 36 j).toNat = true ∧ FL σ g v ((k : Int) + 1) (gv σ 35 j) r.h r.o (r.ph 1 :: rs)) ∧
    (r.p < 2 → 0 ≤ gv σ 31 r.a → FL σ g v ((k : Int) + 1) (gv σ 31 r.a) r.h r.o (r.ph 2 :: rs)))
def recsOK (σ : RS) (g : Gh) (k v : Nat) : List Rec → Prop
  | [] => True
  | r :: rs => recOK σ g k v r rs ∧ recsOK σ g k v rs
/-- the end of a try's body or catch: its finally, or behind it -/
def endT (σ : RS) (g : Gh) (k v : Nat) (r : Rec) (rs : List Rec) : Prop := (0 ≤ gv σ 31 r.a → r.ps = true → r.ek = true) ∧ (¬ 0 ≤ gv σ 31 r.a → FL σ g v ((k : Int) + 1) (gv σ 32 r.a) r.h r.o rs)
/-- the chain of a switch's entries -/
def entryIn (σ : RS) (j : Nat) : Nat → Int → Prop
  | 0, _ => False
  | n+1, k => 0 ≤ k ∧ (k = (j : Int) ∨ entryIn σ j n (gv σ 27 k.toNat))
def slotOK (x : Int) : Prop := 0 ≤ x ∧ x < 460
/-- an instruction is as it should be where it is expected with c -/
def OKI (σ : RS) (g : Gh) (k : Nat) (c : Ctx) : Prop :=
  let x := gv σ 22 k
  let y := gv σ 23 k
  let F := fun (z : Int) (h : Nat) => FL σ g c.v ((k : Int) + 1) z h c.o c.rs
  let n := fun (h : Nat) => FL σ g c.v ((k : Int) + 1) ((k : Int) + 1) h c.o c.rs
  let N := fun (h o : Nat) (rs : List Rec) => FL σ g c.v ((k : Int) + 1) ((k : Int) + 1) h o rs
  match (gv σ 21 k).toNat with
  | 1 => FS σ g ((k : Int) + 1) c.h c.o c.rs
  | 2 => FP σ g k c.v x (c.h + 1) c.o c.rs
  | 3 => slotOK x ∧ n (c.h + 1)
  | 4 => slotOK x ∧ g.isC x.toNat = true ∧ n (c.h + 1)
  | 5 => slotOK x ∧ g.isC x.toNat = false ∧ 1 ≤ c.h ∧ n (c.h - 1)
  | 6 => slotOK x ∧ g.isC x.toNat = false ∧ n c.h
  | 7 => 1 ≤ c.h ∧ n c.h
  | 8 => 2 ≤ c.h ∧ n (c.h - 1)
  | 9 => 2 ≤ c.h ∧ n (c.h - 1)
  | 10 => 1 ≤ c.h ∧ n c.h
  | 11 => 1 ≤ c.h ∧ F x c.h ∧ n (c.h - 1)
  | 12 => 1 ≤ c.h ∧ F x c.h ∧ n (c.h - 1)
  | 13 => 1 ≤ c.h ∧ (c.one = false → F x (c.h - 1)) ∧ n (c.h - 1)
  | 14 => 1 ≤ c.h ∧ F x (c.h - 1) ∧ (c.one = false → n (c.h - 1))
  | 15 => F x c.h
  | 16 => 1 ≤ c.h ∧ n (c.h - 1)
  | 17 => 1 ≤ c.h
  | 18 => 1 ≤ c.h ∧ YOK y c.rs
  | 19 => 1 ≤ c.h ∧ x < (σ.i 3).toInt
  | 20 => x < (σ.i 3).toInt
  | 21 => slotOK x ∧ g.isC x.toNat = true
  | 22 => F x c.h ∧ n c.h
  | 23 => 1 ≤ x ∧ x ≤ c.h ∧ (wv c.rs : Int) + x ≤ 450 ∧ N (c.h - x.toNat) c.o ((2, 0, x.toNat, c.h - x.toNat, c.o, c.v, false, false) :: c.rs)
  | 24 => slotOK y ∧ g.isC y.toNat = false ∧ F x c.h ∧ FS σ g ((k : Int) + 1) c.h c.o c.rs ∧ ∃ (r : Rec) (rs : List Rec), c.rs = r :: rs ∧ r.k = 2
  | 25 => ∃ (r : Rec) (rs : List Rec), c.rs = r :: rs ∧ r.k = 2 ∧ N c.h c.o rs
  | 26 => 0 ≤ x ∧ x < 8 ∧ N c.h c.o ((1, x.toNat, 0, c.h, c.o, c.v, false, false) :: c.rs)
  | 27 => ∃ (r : Rec) (rs : List Rec), c.rs = r :: rs ∧ r.k = 1 ∧ N c.h c.o rs
  | 28 => 1 ≤ c.h ∧ x < (σ.i 24).toInt ∧ (∀ j : Nat, entryIn σ j 500 x → F (gv σ 26 j) (c.h - 1)) ∧ (¬ (∃ j : Nat, entryIn σ j 500 x ∧ ¬ gv σ 28 j = 0) → F y (c.h - 1))
  | 29 => 1 ≤ c.h ∧ x < (σ.i 24).toInt ∧ (∀ j : Nat, entryIn σ j 500 x → FL σ g c.v ((k : Int) + 1) (gv σ 26 j) (c.h - 1) c.o ((3, k, 0, c.h - 1, c.o, c.v, false, false) :: c.rs)) ∧ ∃ j : Nat, entryIn σ j 500 x ∧ ¬ gv σ 28 j = 0
  | 30 => ∃ (r : Rec) (rs : List Rec), c.rs = r :: rs ∧ r.k = 3 ∧ c.h = r.h + 1
  | 31 => 0 ≤ x ∧ x < (σ.i 29).toInt ∧ ∃ ps ek : Bool, N c.h c.o ((4, x.toNat, 0, c.h, c.o, c.v, ps, ek) :: c.rs)
  | 32 => 0 ≤ x ∧ x < 8 ∧ N c.h (c.o + 1) c.rs
  | 33 => ∃ (r : Rec) (rs : List Rec), c.rs = r :: rs ∧ r.k = 4 ∧ r.p = 0 ∧ c.h = r.h ∧ endT σ g k c.v r rs
  | 34 => ∃ (r : Rec) (rs : List Rec), c.rs = r :: rs ∧ r.k = 4 ∧ r.p = 1 ∧ c.h = r.h ∧ endT σ g k c.v r rs
  | 35 => ∃ (r : Rec) (rs : List Rec), c.rs = r :: rs ∧ r.k = 4 ∧ r.p = 2 ∧ c.h = r.h ∧ c.v = r.v ∧ r.ps = true ∧ (r.ek = true → N r.h r.o rs)
  | 36 => 0 ≤ y ∧ JMP σ g c.v ((k : Int) + 1) x y.toNat c.h c.o c.rs
  | _ => False
/-- the code is as expected everywhere -/
def WT (σ : RS) (g : Gh) : Prop := (0 ≤ cdI σ ∧ cdI σ ≤ 2999) ∧ (0 ≤ (σ.i 29).toInt ∧ (σ.i 29).toInt ≤ 200) ∧ (0 ≤ (σ.i 33).toInt ∧ (σ.i 33).toInt ≤ 400) ∧ (0 ≤ (σ.i 24).toInt ∧ (σ.i 24).toInt ≤ 500) ∧
  (∀ k : Nat, (k : Int) < (σ.i 33).toInt → gv σ 37 k < 0 ∨ (k : Int) < gv σ 37 k ∧ gv σ 37 k < (σ.i 33).toInt) ∧ (∀ k : Nat, (k : Int) < (σ.i 29).toInt → gv σ 30 k < (σ.i 33).toInt) ∧
  (∀ k : Nat, (k : Int) < (σ.i 24).toInt → gv σ 27 k < 0 ∨ (k : Int) < gv σ 27 k ∧ gv σ 27 k < (σ.i 24).toInt) ∧
  (0 < cdI σ → ∃ c, g.T 0 c ∧ c.h = 0 ∧ c.one = false ∧ c.rs = []) ∧
  (∀ (k : Nat) (c : Ctx), (k : Int) < cdI σ → g.T k c → OKI σ g k c ∧ recsOK σ g k c.v c.rs ∧ c.h ≤ 1300 ∧ wv c.rs ≤ 450 ∧ oOK c.o c.rs ∧ c.o ≤ 450 ∧ c.rs.length ≤ 250 ∧ c.v ≤ 3000 ∧ (c.one = true → 1 ≤ c.h)) ∧ g.isC 0 = false ∧ g.isC 1 = false
/-! what stands while it runs; s is the state at the run's start: the code there -/
/-- how a finally goes on behind its end -/
def PEND (s σ : RS) (g : Gh) (i : Nat) (r : Rec) (rs : List Rec) : Prop := 0 ≤ gv σ 105 i ∧ gv σ 105 i ≤ 4 ∧ (r.ps = true → (gv σ 105 i = 0 → r.ek = true) ∧ (gv σ 105 i = 1 → 0 ≤ gv σ 107 i ∧ JMP s g r.v (gv s 32 r.a) (gv σ 106 i) (gv σ 107 i).toNat r.h r.o rs) ∧ (gv σ 105 i = 3 → 0 ≤ gv σ 109 i ∧ gv σ 109 i < 3200) ∧ (gv σ 105 i = 4 → YOK (gv σ 107 i) rs))
def RM1 (s σ : RS) (g : Gh) (i : Nat) (r : Rec) (rs : List Rec) : Prop := gv σ 100 i = r.k ∧ gv σ 104 i = r.h ∧ (r.k = 1 → gv σ 101 i = r.a) ∧ (r.k = 2 → gv σ 101 i = wv rs ∧ (wv rs : Int) ≤ gv σ 102 i ∧ gv σ 102 i ≤ gv σ 103 i ∧ gv σ 103 i = wv rs + r.p) ∧ (r.k = 3 → gv σ 101 i = r.a) ∧ (r.k = 4 → gv σ 101 i = r.a ∧ gv σ 102 i = r.p ∧ 0 ≤ gv σ 103 i ∧ gv σ 103 i ≤ r.o ∧ (r.p = 2 → PEND s σ g i r rs))
def RM (s σ : RS) (g : Gh) : List Rec → Prop
  | [] => True
  | r :: rs => RM1 s σ g rs.length r rs ∧ RM s σ g rs
/-- numbers that stay in their ranges all along a run -/
def RD (σ : RS) (g : Gh) : Prop := (∀ j : Nat, j < 460 → (j : Int) < (σ.i 95).toInt → 0 ≤ gv σ 96 j ∧ gv σ 96 j < 8) ∧ (∀ x : Nat, x < 460 → g.isC x = true → 0 ≤ gv σ 84 x ∧ gv σ 84 x < 3200) ∧ (0 ≤ σ.i 81 ∧ σ.i 81 ≤ 200) ∧ (0 ≤ σ.i 85 ∧ σ.i 85 ≤ 3200) ∧ (0 ≤ σ.i 80 ∧ σ.i 80 ≤ 1000) ∧ (∀ t : Nat, t < 3200 → 0 ≤ gv σ 88 t ∧ gv σ 88 t ≤ 8) ∧ (∀ t : Nat, t < 3200 → gv σ 86 t < (σ.i 3).toInt)
/-- the machine is where c is expected -/
def DY (s σ : RS) (g : Gh) (c : Ctx) : Prop := (σ.i 93).toInt = c.h ∧ (σ.i 97).toInt = wv c.rs ∧ 0 ≤ (σ.i 95).toInt ∧ (σ.i 95).toInt ≤ c.o ∧ (σ.i 99).toInt = c.rs.length ∧ RM s σ g c.rs ∧ (c.one = true → gv σ 94 (c.h - 1) = 1)
/-- where a step may come to, from a place before kk at level v -/
def OUT (s σ : RS) (g : Gh) (v : Nat) (kk : Int) : Prop := (σ.i 92).toInt < 0 ∨ cdI s ≤ (σ.i 92).toInt ∨ ∃ c, 0 ≤ (σ.i 92).toInt ∧ g.T (σ.i 92).toInt.toNat c ∧ DY s σ g c ∧ (c.v < v ∨ c.v ≤ v ∧ kk ≤ (σ.i 92).toInt)
