/-! the class: what stands between the calls -/
def szI (s : CS) : Int := (s.i 20).toInt
def tg (s : CS) (t : Int32) : Int32 := gAt (s.a 17) 1024 t
def dpI (s : CS) : Int := (s.i 67).toInt
/-- one of the pool of exceptions -/
def inP (s : CS) (b : Nat) : Prop := ∃ j : Nat, j < 24 ∧ s.r 62 j = some b
/-- the references are as they should be -/
def REFS (s : CS) : Prop := (∀ x ∈ s.L, x < s.hs) ∧ (∀ i a : Nat, i < 400 → s.r 51 i = some a → oK s a 0) ∧ (∀ i j a : Nat, i < 400 → j < 400 → s.r 51 i = some a → s.r 51 j = some a → i = j) ∧ (∀ i a : Nat, i < 24 → s.r 61 i = some a → oK s a 1) ∧ (∀ i j a : Nat, i < 24 → j < 24 → s.r 61 i = some a → s.r 61 j = some a → i = j) ∧ (∀ i a : Nat, i < 24 → s.r 62 i = some a → oK s a 2 ∧ oK s (a + 1) 3 ∧ oK s (a + 2) 3) ∧ (∀ i j a : Nat, i < 24 → j < 24 → s.r 62 i = some a → s.r 62 j = some a → i = j) ∧ (∀ i a b : Nat, i < 24 → s.r 61 i = some a → s.ot a = some b → inP s b) ∧ (∀ b : Nat, s.w = some b → inP s b)
/-- how many are not made yet -/
def nn (f : Nat → Option Nat) : Nat → Nat
  | 0 => 0
  | n + 1 => nn f n + (if f n = none then 1 else 0)
theorem nn.of {f g : Nat → Option Nat} : ∀ {n : Nat}, (∀ i : Nat, i < n → g i = f i) → nn g n = nn f n
  | 0, _ => rfl
  | n + 1, h => by
    show nn g n + (if g n = none then 1 else 0) = nn f n + (if f n = none then 1 else 0)
    rw [nn.of (fun i hi => h i (by omega)), h n (by omega)]
theorem nn.put {f : Nat → Option Nat} {m a : Nat} (hm : f m = none) : ∀ {n : Nat}, m < n → nn (va_up f m (some a)) n + 1 = nn f n
  | 0, h => by omega
  | n + 1, h => by
    show nn (va_up f m (some a)) n + (if va_up f m (some a) n = none then 1 else 0) + 1 = nn f n + (if f n = none then 1 else 0)
    by_cases c : n = m
    · subst c
      have e1 : va_up f n (some a) n = some a := if_pos rfl
      have e2 : nn (va_up f n (some a)) n = nn f n := nn.of (fun i hi => if_neg (by omega))
      rw [e1, e2, hm, if_neg (by intro q; cases q), if_pos rfl]
    · have e1 : va_up f m (some a) n = f n := if_neg c
      rw [e1]
      have := nn.put (a := a) hm (n := n) (by omega)
      omega
/-- all that may still be made, with what is made -/
def ROOM (H : Nat) (s : CS) : Prop := s.hs + nn (s.r 51) 400 + nn (s.r 61) 24 + 3 * nn (s.r 62) 24 = H
/-! the class's code, typed by the frames around each place: 0 lock, 1 body, 2 catches, 3 finally -/
def VN (s : CS) (D : Nat → List Nat) (n : Int) (c : List Nat) : Prop := 0 ≤ n ∧ n ≤ 2000000 ∧ (1200 ≤ n ∨ n < szI s ∧ D n.toNat = c)
def VT (s : CS) (D : Nat → List Nat) (t : Int32) (c : List Nat) : Prop := VN s D (tg s t).toInt c
/-- a try's handler, and its finally if it has one -/
def HND (s : CS) (D : Nat → List Nat) (x : Int32) (c : List Nat) : Prop := VT s D x (2 :: c) ∧ (0 ≤ (tg s (x + 1)).toInt → VT s D (x + 1) (3 :: c))
/-- where a jump out of frames goes -/
def LVT (s : CS) (D : Nat → List Nat) (x : Int32) (c : List Nat) : Prop := ∃ g : Nat, (x - x / 32 * 32).toInt = (g : Int) ∧ g ≤ c.length ∧ VT s D (x / 32) (c.drop (c.length - g))
/-- the frame with that number is in its catches -/
def AT2 (c : List Nat) (x : Int32) : Prop := ∃ i : Nat, x.toInt = (i : Int) ∧ i < c.length ∧ ∃ r q : List Nat, c = r ++ 2 :: q ∧ q.length = i
def INS (s : CS) (D : Nat → List Nat) (p : Nat) : Prop :=
  ((s.a 15 p).toInt < 30 → VN s D ((p : Int) + 1) (D p)) ∧
  ((s.a 15 p).toInt = 30 → VT s D (s.a 16 p) (D p)) ∧
  (31 ≤ (s.a 15 p).toInt → (s.a 15 p).toInt ≤ 35 → VT s D (s.a 16 p) (D p) ∧ VN s D ((p : Int) + 1) (D p)) ∧
  (36 ≤ (s.a 15 p).toInt → (s.a 15 p).toInt < 50 → VN s D ((p : Int) + 1) (D p)) ∧
  (((s.a 15 p).toInt = 51 ∨ (s.a 15 p).toInt = 52 ∨ (s.a 15 p).toInt = 55 ∨ (s.a 15 p).toInt = 57) → VN s D ((p : Int) + 1) (D p)) ∧
  ((s.a 15 p).toInt = 53 → VN s D ((p : Int) + 1) (0 :: D p)) ∧
  ((s.a 15 p).toInt = 54 → VN s D ((p : Int) + 1) (1 :: D p) ∧ HND s D (s.a 16 p) (D p)) ∧
  ((s.a 15 p).toInt = 56 → VT s D (s.a 16 p / 16) (D p) ∧ VN s D ((p : Int) + 1) (D p)) ∧
  ((s.a 15 p).toInt = 58 → ∃ r, D p = 2 :: r) ∧
  ((s.a 15 p).toInt = 59 → ∃ r, D p = 3 :: r) ∧
  ((s.a 15 p).toInt = 60 ∨ (s.a 15 p).toInt = 61 → LVT s D (s.a 16 p) (D p)) ∧
  ((s.a 15 p).toInt = 64 → AT2 (D p) (s.a 16 p)) ∧
  ((s.a 15 p).toInt ≤ 64)
def WTC (s : CS) (D : Nat → List Nat) : Prop := 0 < szI s ∧ D 0 = [] ∧ ∀ p : Nat, p < 1200 → (p : Int) < szI s → INS s D p ∧ (D p).length ≤ 21
/-- the code is the same -/
def CEQ (s R : CS) : Prop := R.a 15 = s.a 15 ∧ R.a 16 = s.a 16 ∧ R.a 17 = s.a 17 ∧ R.i 20 = s.i 20
theorem CEQ.tr {s R T : CS} (h : CEQ s R) (g : CEQ R T) : CEQ s T := ⟨g.1.trans h.1, g.2.1.trans h.2.1, g.2.2.1.trans h.2.2.1, g.2.2.2.trans h.2.2.2⟩
theorem CEQ.vn {s R : CS} (h : CEQ s R) : VN R = VN s := by
  funext D n c; unfold VN szI; rw [h.2.2.2]
theorem CEQ.vt {s R : CS} (h : CEQ s R) : VT R = VT s := by
  funext D t c; unfold VT tg; rw [h.vn, h.2.2.1]
theorem CEQ.hn {s R : CS} (h : CEQ s R) : HND R = HND s := by
  funext D x c; unfold HND; rw [h.vt]; unfold tg; rw [h.2.2.1]
theorem CEQ.lv {s R : CS} (h : CEQ s R) : LVT R = LVT s := by
  funext D x c; unfold LVT; rw [h.vt]
theorem CEQ.ins {s R : CS} (h : CEQ s R) : INS R = INS s := by
  funext D p; unfold INS; rw [h.1, h.2.1, h.vn, h.vt, h.hn, h.lv]
theorem CEQ.wt {s R : CS} (h : CEQ s R) {D : Nat → List Nat} (w : WTC s D) : WTC R D := by
  unfold WTC szI at *; rw [h.ins, h.2.2.2]; exact w
/-- a frame as it should be -/
def FR1 (s : CS) (D : Nat → List Nat) (k : Int) (a ph : Nat) (r : List Nat) : Prop := (0 ≤ (s.o a 3).toInt ∧ (s.o a 3).toInt ≤ k) ∧ (ph = 1 ∨ ph = 2 → HND s D (s.o a 1) r) ∧ (ph = 3 → (s.o a 5 = 1 ∨ s.o a 5 = 2 ∨ s.o a 5 = 3 ∨ s.o a 5 = 4) ∧ (s.o a 5 = 1 ∨ s.o a 5 = 2 → LVT s D (s.o a 7) r) ∧ (s.o a 5 = 3 ∨ s.o a 5 = 4 → s.o a 7 = 0) ∧ (s.o a 5 = 4 → s.ot a ≠ none))
def FRM (s : CS) (D : Nat → List Nat) (k : Int) : List Nat → Prop
  | [] => True
  | ph :: r => (∃ a : Nat, s.r 61 r.length = some a ∧ oK s a 1 ∧ (s.o a 0).toInt = (ph : Int) ∧ FR1 s D k a ph r) ∧ FRM s D k r
/-- frames in their catches hold what they caught -/
def HLD (s : CS) : List Nat → Prop
  | [] => True
  | ph :: r => (ph = 2 → ∃ a b : Nat, s.r 61 r.length = some a ∧ s.ot a = some b) ∧ HLD s r
theorem FRM.of {s R : CS} {D : Nat → List Nat} {k k' : Int} (hc : CEQ s R) (hk : k ≤ k') : ∀ {c : List Nat}, FRM s D k c → (∀ i a : Nat, i < c.length → s.r 61 i = some a → R.r 61 i = some a ∧ (oK s a 1 → oK R a 1) ∧ R.o a = s.o a ∧ R.ot a = s.ot a) → FRM R D k' c
  | [], _, _ => True.intro
  | ph :: r, ⟨⟨a, h1, h2, h3, h4⟩, h5⟩, hf => by
    have e := hf r.length a (by show r.length < r.length + 1; omega) h1
    refine ⟨⟨a, e.1, e.2.1 h2, by rw [e.2.2.1]; exact h3, ?_⟩, FRM.of hc hk h5 (fun i a hi => hf i a (by show i < r.length + 1; omega))⟩
    unfold FR1 at h4 ⊢
    rw [hc.hn, hc.lv, e.2.2.1, e.2.2.2]
    exact ⟨⟨h4.1.1, by omega⟩, h4.2⟩
theorem HLD.of {s R : CS} : ∀ {c : List Nat}, HLD s c → (∀ i a : Nat, i < c.length → s.r 61 i = some a → R.r 61 i = some a ∧ (s.ot a ≠ none → R.ot a ≠ none)) → HLD R c
  | [], _, _ => True.intro
  | ph :: r, ⟨h1, h2⟩, hf => ⟨fun q => by
    obtain ⟨a, b, e1, e2⟩ := h1 q
    have e := hf r.length a (by show r.length < r.length + 1; omega) e1
    have h3 := e.2 (by rw [e2]; intro q; cases q)
    cases h : R.ot a with
    | none => exact absurd h h3
    | some b' => exact ⟨a, b', e.1, h⟩, HLD.of h2 (fun i a hi => hf i a (by show i < r.length + 1; omega))⟩
/-- only the machine's values, rows and numbers change -/
def PV (s R : CS) : Prop := (R.hs = s.hs ∧ R.L = s.L ∧ R.k = s.k ∧ R.o = s.o ∧ R.ol = s.ol ∧ R.ot = s.ot ∧ R.r = s.r ∧ R.w = s.w ∧ R.b = s.b ∧ R.l = s.l) ∧ (∀ j : Nat, j < 65 ∨ j = 67 ∨ j = 68 ∨ j = 73 ∨ j = 75 → R.i j = s.i j) ∧ (∀ k : Nat, k < 59 → R.a k = s.a k)
theorem PV.rf (s : CS) : PV s s := ⟨⟨rfl, rfl, rfl, rfl, rfl, rfl, rfl, rfl, rfl, rfl⟩, fun _ _ => rfl, fun _ _ => rfl⟩
theorem PV.tr {s R T : CS} (h : PV s R) (g : PV R T) : PV s T := by
  obtain ⟨⟨a1, a2, a3, a4, a5, a6, a7, a8, a9, a10⟩, b, c⟩ := h
  obtain ⟨⟨d1, d2, d3, d4, d5, d6, d7, d8, d9, d10⟩, e, f⟩ := g
  exact ⟨⟨d1.trans a1, d2.trans a2, d3.trans a3, d4.trans a4, d5.trans a5, d6.trans a6, d7.trans a7, d8.trans a8, d9.trans a9, d10.trans a10⟩, fun j hj => (e j hj).trans (b j hj), fun k hk => (f k hk).trans (c k hk)⟩
theorem PV.i {s R : CS} (h : PV s R) (k : Nat) (v : Int32) (hk : ¬ (k < 65 ∨ k = 67 ∨ k = 68 ∨ k = 73 ∨ k = 75)) : PV s (CS.setI R k v) := ⟨h.1, fun j hj => (if_neg (fun e => hk (by rw [← e]; exact hj))).trans (h.2.1 j hj), h.2.2⟩
theorem PV.a {s R : CS} (h : PV s R) (k : Nat) (f : Nat → Int32) (hk : 59 ≤ k) : PV s (CS.putA R k f) := ⟨h.1, h.2.1, fun j hj => (if_neg (by omega)).trans (h.2.2 j hj)⟩
theorem PV.A {s R : CS} (h : PV s R) (k j : Nat) (v : Int32) (hk : 59 ≤ k) : PV s (CS.setA R k j v) := ⟨h.1, h.2.1, fun i hi => (if_neg (by omega)).trans (h.2.2 i hi)⟩
theorem PV.ceq {s R : CS} (h : PV s R) : CEQ s R := ⟨h.2.2 15 (by omega), h.2.2 16 (by omega), h.2.2 17 (by omega), h.2.1 20 (by omega)⟩
theorem PV.ok1 {s R : CS} (h : PV s R) {x t : Nat} : oK R x t = oK s x t := by unfold oK; rw [h.1.2.1, h.1.2.2.1]
theorem PV.frm {s R : CS} (h : PV s R) {D : Nat → List Nat} {k k' : Int} (hk : k ≤ k') {c : List Nat} (hf : FRM s D k c) : FRM R D k' c := hf.of h.ceq hk (fun i a _ e => ⟨by rw [h.1.2.2.2.2.2.2.1]; exact e, fun q => by rw [h.ok1]; exact q, by rw [h.1.2.2.2.1], by rw [h.1.2.2.2.2.2.1]⟩)
theorem PV.hld {s R : CS} (h : PV s R) {c : List Nat} (hf : HLD s c) : HLD R c := hf.of (fun i a _ e => ⟨by rw [h.1.2.2.2.2.2.2.1]; exact e, fun q => by rw [h.1.2.2.2.2.2.1]; exact q⟩)
theorem PV.refs {s R : CS} (h : PV s R) (hr : REFS s) : REFS R := by
  obtain ⟨⟨a1, a2, a3, a4, a5, a6, a7, a8, a9, a10⟩, -, -⟩ := h
  unfold REFS inP oK at *
  rw [a1, a2, a3, a6, a7, a8]
  exact hr
theorem PV.room {s R : CS} (h : PV s R) {H : Nat} (hr : ROOM H s) : ROOM H R := by
  unfold ROOM at *
  rw [h.1.1, h.1.2.2.2.2.2.2.1]
  exact hr
