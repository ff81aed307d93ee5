/-! both machines: what is open around a place -/
/-- an entry: its sort (0 lock, 1 body, 2 catch, 3 finally, 4 row, 5 arms), its height, four numbers, what it may cost -/
def Ent : Type := Nat × Nat × Nat × Nat × Nat × Nat × Nat
def Ent.k (e : Ent) : Nat := e.1
def Ent.h (e : Ent) : Nat := e.2.1
def Ent.x (e : Ent) : Nat := e.2.2.1
def Ent.y (e : Ent) : Nat := e.2.2.2.1
def Ent.z (e : Ent) : Nat := e.2.2.2.2.1
def Ent.w (e : Ent) : Nat := e.2.2.2.2.2.1
def Ent.u (e : Ent) : Nat := e.2.2.2.2.2.2
/-- places of both codes that belong together: place, place, height, what it may cost, what is left of a step, what is open -/
def Als : Type := Nat → Nat → Nat → Nat → Nat → List Ent → Prop
/-- the frames among them -/
def frs : List Ent → Nat
  | [] => 0
  | e :: c => frs c + (if e.k ≤ 3 then 1 else 0)
/-- so many may be open -/
def ops : List Ent → Nat
  | [] => 0
  | e :: c => ops c + (if e.k = 1 then e.z else 0)
/-- so many may still be thrown -/
def tps : List Ent → Nat
  | [] => 0
  | e :: c => tps c + (if e.k = 1 then 2 else if e.k = 2 then 1 else 0)
/-- what leaving the frames may cost -/
def fps : List Ent → Nat
  | [] => 0
  | e :: c => fps c + (if e.k = 0 then 2 else if e.k = 1 then 1460 else if e.k = 2 then 1154 else if e.k = 3 then 1152 else 0)
/-- the cells and slots that entries keep for themselves -/
def cel (e : Ent) (k : Nat) : Prop := (e.k = 2 ∧ k = e.z) ∨ (e.k = 4 ∧ e.x ≤ k ∧ k < e.x + 2 + e.y)
def slo (e : Ent) (l : Nat) : Prop := e.k = 2 ∧ l = e.w
def CTK (nm : Nat → Nat → Prop) : List Ent → Prop
  | [] => True
  | e :: c => (∀ k : Nat, cel e k → k < 720 ∧ (∀ l : Nat, ¬ nm k l) ∧ ∀ e' ∈ c, ¬ cel e' k) ∧ (∀ l : Nat, slo e l → (∀ k : Nat, ¬ nm k l) ∧ ∀ e' ∈ c, ¬ slo e' l) ∧ CTK nm c
/-- what each address stands for -/
def MUI (r : RS) (mu : Nat → Nat) : Prop := (∀ b : Nat, (mu b : Int) < (r.i 85).toInt ∨ 3200 ≤ mu b) ∧ ∀ b b' : Nat, (mu b : Int) < (r.i 85).toInt → (mu b' : Int) < (r.i 85).toInt → mu b = mu b' → b = b'
def TLV (s : CS) (r : RS) (mu : Nat → Nat) (b : Nat) : Prop := THG s r b (mu b) ∧ (mu b : Int) < (r.i 85).toInt ∧ inP s b ∧ 0 ≤ (r.a 86 (mu b)).toInt ∧ (r.a 86 (mu b)).toInt < (r.i 3).toInt
/-- the end of that try's finally can be reached -/
def FCP (r : RS) (AL : Als) (y : Nat) : Prop := ∃ (p q h w g : Nat) (e : Ent) (c : List Ent), AL p q h w g (e :: c) ∧ e.k = 3 ∧ e.y = y ∧ r.a 21 q = 35
/-- all finallys among them can end -/
def FCA (r : RS) (AL : Als) (c : List Ent) : Prop := ∀ e ∈ c, e.k = 1 ∨ e.k = 2 → 0 ≤ (r.a 31 e.y).toInt → FCP r AL e.y
def HTS (c : List Ent) (h : Nat) : Prop := ∀ e ∈ c, e.k ≤ 3 → e.h = h
def UTS (c : List Ent) (w : Nat) : Prop := ∀ e ∈ c, e.k = 1 ∨ e.k = 2 → w ≤ e.u
/-- a jump's goal -/
def GL1 (s : CS) (r : RS) (AL : Als) (c : List Ent) (h : Nat) (T x d : Int32) (u : Nat) : Prop := ∃ (c1 c0 : List Ent), c = c1 ++ c0 ∧ ((T - T / 32 * 32).toInt = (frs c0 : Int) ∧ d.toInt = (c0.length : Int)) ∧ HTS c1 h ∧ (FCA r AL c1 → ∃ p q w : Nat, ((cTg s (T / 32)).toInt = (p : Int) ∧ x.toInt = (q : Int)) ∧ AL p q h w 0 c0 ∧ w ≤ u ∧ UTS c1 w)
/-- a yield's goal -/
def GL2 (s : CS) (r : RS) (AL : Als) (c : List Ent) (h : Nat) (T d : Int32) (u : Nat) : Prop := ∃ (c1 : List Ent) (a : Ent) (c0 : List Ent), c = c1 ++ a :: c0 ∧ (a.k = 5 ∧ a.h = h ∧ h < 600) ∧ ((T - T / 32 * 32).toInt = (frs c0 : Int) ∧ d.toInt = (c0.length : Int) + 1) ∧ HTS c1 h ∧ (FCA r AL c1 → ∃ p q w : Nat, ((cTg s (T / 32)).toInt = (p : Int) ∧ (r.a 23 a.x).toInt = (q : Int)) ∧ AL p q (h + 1) w 0 c0 ∧ w ≤ u ∧ UTS c1 w)
/-- the ways that both go -/
def WYS (s : CS) (r : RS) (mu : Nat → Nat) (AL : Als) (c : List Ent) (h u : Nat) (way val T : Int32) (t : Option Nat) (how x d value g : Int32) : Prop := (way = 1 ∧ how = 1 ∧ GL1 s r AL c h T x d u) ∨ (way = 2 ∧ how = 4 ∧ val = value ∧ GL2 s r AL c h T d u) ∨ (way = 3 ∧ how = 2 ∧ val = value ∧ T = 0) ∨ (way = 4 ∧ how = 3 ∧ T = 0 ∧ ∃ b : Nat, t = some b ∧ g.toInt = (mu b : Int) ∧ TLV s r mu b)
/-- a frame of the class -/
def FRA (s : CS) (f : Nat) (c : List Ent) (ph : Int32) (h : Nat) : Prop := s.r 61 (frs c) = some f ∧ s.o f 0 = ph ∧ (s.o f 2).toInt = (h : Int)
/-- how it goes on behind a finally -/
def PNF (s : CS) (r : RS) (mu : Nat → Nat) (AL : Als) (e : Ent) (c : List Ent) (f : Nat) : Prop := (s.o f 5 = 1 ∧ r.a 105 c.length = 0 ∧ ((s.o f 7 - s.o f 7 / 32 * 32).toInt = (frs c : Int) ∧ (s.o f 7 / 32).toInt = (e.x : Int) + 2) ∧ (FCP r AL e.y → ∃ p q w : Nat, (cTg s (s.o f 7 / 32)).toInt = (p : Int) ∧ (r.a 32 e.y).toInt = (q : Int) ∧ AL p q e.h w 0 c ∧ w ≤ e.u)) ∨ (FCP r AL e.y → WYS s r mu AL c e.h e.u (s.o f 5) (s.o f 6) (s.o f 7) (s.ot f) (r.a 105 c.length) (r.a 106 c.length) (r.a 107 c.length) (r.a 108 c.length) (r.a 109 c.length))
/-- a row of values -/
def RWV (s : CS) (r : RS) (e : Ent) (k : Nat) (m0 m : Int) : Prop := ∃ i : Nat, i ≤ e.y ∧ m = m0 + e.y ∧ 0 ≤ m0 ∧ (r.a 101 k).toInt = m0 ∧ (r.a 102 k).toInt = m0 + i ∧ (r.a 103 k).toInt = m ∧ (s.a 59 e.x).toInt = (i : Int) ∧ (s.a 59 (e.x + 1)).toInt = (e.y : Int) ∧ ∀ j : Nat, j < e.y → s.a 59 (e.x + 2 + j) = r.a 98 (m0.toNat + j)
/-- frames and records, one beside the other -/
def FRS (s : CS) (r : RS) (mu : Nat → Nat) (AL : Als) : List Ent → Int → Prop
  | [], m => m = 0
  | e :: c, m => (r.a 104 c.length).toInt = (e.h : Int) ∧ (
      (e.k = 0 ∧ r.a 100 c.length = 1 ∧ (∃ f : Nat, FRA s f c 0 e.h ∧ s.o f 1 = r.a 101 c.length) ∧ FRS s r mu AL c m)
    ∨ (e.k = 1 ∧ r.a 100 c.length = 4 ∧ ((r.a 101 c.length).toInt = (e.y : Int) ∧ r.a 102 c.length = 0) ∧ (∃ f : Nat, FRA s f c 1 e.h ∧ (s.o f 1).toInt = (e.x : Int) ∧ s.o f 3 = r.a 103 c.length ∧ 0 ≤ (r.a 103 c.length).toInt ∧ (r.a 103 c.length).toInt ≤ (ops c : Int)) ∧ FRS s r mu AL c m)
    ∨ (e.k = 2 ∧ r.a 100 c.length = 4 ∧ ((r.a 101 c.length).toInt = (e.y : Int) ∧ r.a 102 c.length = 1) ∧ (∃ f b : Nat, FRA s f c 2 e.h ∧ (s.o f 1).toInt = (e.x : Int) ∧ s.ot f = some b ∧ TLV s r mu b ∧ (r.a 84 e.w).toInt = (mu b : Int) ∧ s.a 59 e.z = r.a 87 (mu b)) ∧ FRS s r mu AL c m)
    ∨ (e.k = 3 ∧ r.a 100 c.length = 4 ∧ ((r.a 101 c.length).toInt = (e.y : Int) ∧ r.a 102 c.length = 2) ∧ (∃ f : Nat, FRA s f c 3 e.h ∧ PNF s r mu AL e c f) ∧ FRS s r mu AL c m)
    ∨ (e.k = 4 ∧ r.a 100 c.length = 2 ∧ ∃ m0 : Int, RWV s r e c.length m0 m ∧ FRS s r mu AL c m0)
    ∨ (e.k = 5 ∧ r.a 100 c.length = 3 ∧ (r.a 101 c.length).toInt = (e.x : Int) ∧ FRS s r mu AL c m))
/-- what was told, alike -/
def TLR (s : CS) (r : RS) : Prop := RSC s r ∧ TLD s r ∧ RB r
/-- what is open -/
def RCO (r : RS) : List Ent → Int → Prop
  | [], _ => True
  | e :: c, o => (e.k = 1 → (r.a 103 c.length).toInt ≤ o ∧ RCO r c (r.a 103 c.length).toInt) ∧ (¬ e.k = 1 → RCO r c o)
def OPW (s : CS) (r : RS) (c : List Ent) : Prop := s.i 68 = r.i 95 ∧ 0 ≤ (r.i 95).toInt ∧ (r.i 95).toInt ≤ (ops c : Int) ∧ ops c ≤ 320 ∧ (∀ k : Nat, (k : Int) < (r.i 95).toInt → s.a 63 k = r.a 96 k) ∧ RCO r c (r.i 95).toInt
/-- all that runs beside the values; what is open beside it -/
def DY0 (s : CS) (r : RS) (mu : Nat → Nat) (AL : Als) (c : List Ent) (n : Int) : Prop := FRS s r mu AL c (r.i 97).toInt ∧ ((s.i 67).toInt = (frs c : Int) ∧ (r.i 99).toInt = (c.length : Int)) ∧ s.i 71 = hS r 8 ∧ (0 ≤ (r.i 85).toInt ∧ (r.i 85).toInt + tps c ≤ 2 * (r.i 80).toInt + n) ∧ MUI r mu ∧ r.i 115 = 0
def DYN (s : CS) (r : RS) (mu : Nat → Nat) (AL : Als) (c : List Ent) (n : Int) : Prop := DY0 s r mu AL c n ∧ OPW s r c
