/-- the code stands, kinds grow at most -/
def CE (s t : RS) : Prop := (∀ k : Nat, 21 ≤ k → k ≤ 37 → t.a k = s.a k) ∧ t.i 20 = s.i 20 ∧ t.i 24 = s.i 24 ∧ t.i 29 = s.i 29 ∧ t.i 33 = s.i 33 ∧ (s.i 3).toInt ≤ (t.i 3).toInt
theorem CE.egv {s t : RS} (h : CE s t) {k : Nat} (h1 : 21 ≤ k) (h2 : k ≤ 37) (i : Nat) : gv t k i = gv s k i := gv_of (h.1 k h1 h2) i
theorem CE.ecd {s t : RS} (h : CE s t) : cdI t = cdI s := by unfold cdI; rw [h.2.1]
theorem CE.eFL {s t : RS} (h : CE s t) (g : Gh) (v : Nat) (kk x : Int) (a o : Nat) (rs : List Rec) : FL t g v kk x a o rs = FL s g v kk x a o rs := by unfold FL; rw [h.ecd]
theorem CE.eFS {s t : RS} (h : CE s t) (g : Gh) (x : Int) (a o : Nat) (rs : List Rec) : FS t g x a o rs = FS s g x a o rs := by unfold FS; rw [h.ecd]
theorem CE.eFP {s t : RS} (h : CE s t) (g : Gh) (k v : Nat) (y : Int) (a o : Nat) (rs : List Rec) : FP t g k v y a o rs = FP s g k v y a o rs := by unfold FP; rw [h.ecd]
theorem CE.earr {s t : RS} (h : CE s t) (g : Gh) (d : Nat) : ∀ rs : List Rec, arr t g d rs = arr s g d rs
  | [] => rfl
  | r :: rs => by unfold arr; rw [h.egv (by decide) (by decide), h.earr g d rs]
theorem CE.elvA {s t : RS} (h : CE s t) (d a v : Nat) (x : Int) : ∀ rs : List Rec, lvA t d a v x rs = lvA s d a v x rs
  | [] => rfl
  | r :: rs => by unfold lvA; rw [h.egv (by decide) (by decide), h.elvA d a v x rs]
theorem CE.eJMP {s t : RS} (h : CE s t) (g : Gh) (v : Nat) (kk x : Int) (d a o : Nat) (rs : List Rec) : JMP t g v kk x d a o rs = JMP s g v kk x d a o rs := by
  unfold JMP; simp only [h.ecd, h.earr, h.elvA]
theorem CE.ecatchIn {s t : RS} (h : CE s t) (j : Nat) : ∀ (n : Nat) (k : Int), catchIn t j n k = catchIn s j n k
  | 0, _ => rfl
  | n+1, k => by unfold catchIn; rw [h.egv (by decide) (by decide), h.ecatchIn j n]
theorem CE.eentryIn {s t : RS} (h : CE s t) (j : Nat) : ∀ (n : Nat) (k : Int), entryIn t j n k = entryIn s j n k
  | 0, _ => rfl
  | n+1, k => by unfold entryIn; rw [h.egv (by decide) (by decide), h.eentryIn j n]
theorem CE.erecOK {s t : RS} (h : CE s t) (g : Gh) (k v : Nat) (r : Rec) (rs : List Rec) : recOK t g k v r rs = recOK s g k v r rs := by
  unfold recOK
  simp only [h.ecd, h.eFL, h.ecatchIn, h.egv (k := 23) (by decide) (by decide), h.egv (k := 30) (by decide) (by decide), h.egv (k := 31) (by decide) (by decide), h.egv (k := 32) (by decide) (by decide), h.egv (k := 35) (by decide) (by decide), h.egv (k := 36) (by decide) (by decide), h.2.2.2.1]
theorem CE.erecsOK {s t : RS} (h : CE s t) (g : Gh) (k v : Nat) : ∀ rs : List Rec, recsOK t g k v rs = recsOK s g k v rs
  | [] => rfl
  | r :: rs => by unfold recsOK; rw [h.erecOK, h.erecsOK g k v rs]
theorem CE.eendT {s t : RS} (h : CE s t) (g : Gh) (k v : Nat) (r : Rec) (rs : List Rec) : endT t g k v r rs = endT s g k v r rs := by
  unfold endT
  simp only [h.eFL, h.egv (k := 31) (by decide) (by decide), h.egv (k := 32) (by decide) (by decide)]
theorem CE.eO1 {s t : RS} (h : CE s t) {g : Gh} {k : Nat} {c : Ctx} (ho : OKI s g k c) (hop : gv s 21 k = 1) : OKI t g k c := by
  have q := okI_1 ho hop
  have hop' : gv t 21 k = 1 := (h.egv (by decide) (by decide) k).trans hop
  have h3 := h.2.2.2.2.2
  have hw : (let x := gv t 22 k; let y := gv t 23 k; let F := fun (z : Int) (h : Nat) => FL t g c.v ((k : Int) + 1) z h c.o c.rs; let n := fun (h : Nat) => FL t g c.v ((k : Int) + 1) ((k : Int) + 1) h c.o c.rs; let N := fun (h o : Nat) (rs : List Rec) => FL t g c.v ((k : Int) + 1) ((k : Int) + 1) h o rs; FS t g ((k : Int) + 1) c.h c.o c.rs) := by
    simp only [h.eFL, h.eFS, h.eFP, h.eJMP, h.eentryIn, h.eendT, h.egv (k := 22) (by decide) (by decide), h.egv (k := 23) (by decide) (by decide), h.egv (k := 26) (by decide) (by decide), h.egv (k := 28) (by decide) (by decide), h.2.2.2.1, h.2.2.1]
    exact q
  unfold OKI
  rw [hop']
  exact hw
theorem CE.eO2 {s t : RS} (h : CE s t) {g : Gh} {k : Nat} {c : Ctx} (ho : OKI s g k c) (hop : gv s 21 k = 2) : OKI t g k c := by
  have q := okI_2 ho hop
  have hop' : gv t 21 k = 2 := (h.egv (by decide) (by decide) k).trans hop
  have h3 := h.2.2.2.2.2
  have hw : (let x := gv t 22 k; let y := gv t 23 k; let F := fun (z : Int) (h : Nat) => FL t g c.v ((k : Int) + 1) z h c.o c.rs; let n := fun (h : Nat) => FL t g c.v ((k : Int) + 1) ((k : Int) + 1) h c.o c.rs; let N := fun (h o : Nat) (rs : List Rec) => FL t g c.v ((k : Int) + 1) ((k : Int) + 1) h o rs; FP t g k c.v x (c.h + 1) c.o c.rs) := by
    simp only [h.eFL, h.eFS, h.eFP, h.eJMP, h.eentryIn, h.eendT, h.egv (k := 22) (by decide) (by decide), h.egv (k := 23) (by decide) (by decide), h.egv (k := 26) (by decide) (by decide), h.egv (k := 28) (by decide) (by decide), h.2.2.2.1, h.2.2.1]
    exact q
  unfold OKI
  rw [hop']
  exact hw
theorem CE.eO3 {s t : RS} (h : CE s t) {g : Gh} {k : Nat} {c : Ctx} (ho : OKI s g k c) (hop : gv s 21 k = 3) : OKI t g k c := by
  have q := okI_3 ho hop
  have hop' : gv t 21 k = 3 := (h.egv (by decide) (by decide) k).trans hop
  have h3 := h.2.2.2.2.2
  have hw : (let x := gv t 22 k; let y := gv t 23 k; let F := fun (z : Int) (h : Nat) => FL t g c.v ((k : Int) + 1) z h c.o c.rs; let n := fun (h : Nat) => FL t g c.v ((k : Int) + 1) ((k : Int) + 1) h c.o c.rs; let N := fun (h o : Nat) (rs : List Rec) => FL t g c.v ((k : Int) + 1) ((k : Int) + 1) h o rs; slotOK x ∧ n (c.h + 1)) := by
    simp only [h.eFL, h.eFS, h.eFP, h.eJMP, h.eentryIn, h.eendT, h.egv (k := 22) (by decide) (by decide), h.egv (k := 23) (by decide) (by decide), h.egv (k := 26) (by decide) (by decide), h.egv (k := 28) (by decide) (by decide), h.2.2.2.1, h.2.2.1]
    exact q
  unfold OKI
  rw [hop']
  exact hw
theorem CE.eO4 {s t : RS} (h : CE s t) {g : Gh} {k : Nat} {c : Ctx} (ho : OKI s g k c) (hop : gv s 21 k = 4) : OKI t g k c := by
  have q := okI_4 ho hop
  have hop' : gv t 21 k = 4 := (h.egv (by decide) (by decide) k).trans hop
  have h3 := h.2.2.2.2.2
  have hw : (let x := gv t 22 k; let y := gv t 23 k; let F := fun (z : Int) (h : Nat) => FL t g c.v ((k : Int) + 1) z h c.o c.rs; let n := fun (h : Nat) => FL t g c.v ((k : Int) + 1) ((k : Int) + 1) h c.o c.rs; let N := fun (h o : Nat) (rs : List Rec) => FL t g c.v ((k : Int) + 1) ((k : Int) + 1) h o rs; slotOK x ∧ g.isC x.toNat = true ∧ n (c.h + 1)) := by
    simp only [h.eFL, h.eFS, h.eFP, h.eJMP, h.eentryIn, h.eendT, h.egv (k := 22) (by decide) (by decide), h.egv (k := 23) (by decide) (by decide), h.egv (k := 26) (by decide) (by decide), h.egv (k := 28) (by decide) (by decide), h.2.2.2.1, h.2.2.1]
    exact q
  unfold OKI
  rw [hop']
  exact hw
theorem CE.eO5 {s t : RS} (h : CE s t) {g : Gh} {k : Nat} {c : Ctx} (ho : OKI s g k c) (hop : gv s 21 k = 5) : OKI t g k c := by
  have q := okI_5 ho hop
  have hop' : gv t 21 k = 5 := (h.egv (by decide) (by decide) k).trans hop
  have h3 := h.2.2.2.2.2
  have hw : (let x := gv t 22 k; let y := gv t 23 k; let F := fun (z : Int) (h : Nat) => FL t g c.v ((k : Int) + 1) z h c.o c.rs; let n := fun (h : Nat) => FL t g c.v ((k : Int) + 1) ((k : Int) + 1) h c.o c.rs; let N := fun (h o : Nat) (rs : List Rec) => FL t g c.v ((k : Int) + 1) ((k : Int) + 1) h o rs; slotOK x ∧ g.isC x.toNat = false ∧ 1 ≤ c.h ∧ n (c.h - 1)) := by
    simp only [h.eFL, h.eFS, h.eFP, h.eJMP, h.eentryIn, h.eendT, h.egv (k := 22) (by decide) (by decide), h.egv (k := 23) (by decide) (by decide), h.egv (k := 26) (by decide) (by decide), h.egv (k := 28) (by decide) (by decide), h.2.2.2.1, h.2.2.1]
    exact q
  unfold OKI
  rw [hop']
  exact hw
theorem CE.eO6 {s t : RS} (h : CE s t) {g : Gh} {k : Nat} {c : Ctx} (ho : OKI s g k c) (hop : gv s 21 k = 6) : OKI t g k c := by
  have q := okI_6 ho hop
  have hop' : gv t 21 k = 6 := (h.egv (by decide) (by decide) k).trans hop
  have h3 := h.2.2.2.2.2
  have hw : (let x := gv t 22 k; let y := gv t 23 k; let F := fun (z : Int) (h : Nat) => FL t g c.v ((k : Int) + 1) z h c.o c.rs; let n := fun (h : Nat) => FL t g c.v ((k : Int) + 1) ((k : Int) + 1) h c.o c.rs; let N := fun (h o : Nat) (rs : List Rec) => FL t g c.v ((k : Int) + 1) ((k : Int) + 1) h o rs; slotOK x ∧ g.isC x.toNat = false ∧ n c.h) := by
    simp only [h.eFL, h.eFS, h.eFP, h.eJMP, h.eentryIn, h.eendT, h.egv (k := 22) (by decide) (by decide), h.egv (k := 23) (by decide) (by decide), h.egv (k := 26) (by decide) (by decide), h.egv (k := 28) (by decide) (by decide), h.2.2.2.1, h.2.2.1]
    exact q
  unfold OKI
  rw [hop']
  exact hw
theorem CE.eO7 {s t : RS} (h : CE s t) {g : Gh} {k : Nat} {c : Ctx} (ho : OKI s g k c) (hop : gv s 21 k = 7) : OKI t g k c := by
  have q := okI_7 ho hop
  have hop' : gv t 21 k = 7 := (h.egv (by decide) (by decide) k).trans hop
  have h3 := h.2.2.2.2.2
  have hw : (let x := gv t 22 k; let y := gv t 23 k; let F := fun (z : Int) (h : Nat) => FL t g c.v ((k : Int) + 1) z h c.o c.rs; let n := fun (h : Nat) => FL t g c.v ((k : Int) + 1) ((k : Int) + 1) h c.o c.rs; let N := fun (h o : Nat) (rs : List Rec) => FL t g c.v ((k : Int) + 1) ((k : Int) + 1) h o rs; 1 ≤ c.h ∧ n c.h) := by
    simp only [h.eFL, h.eFS, h.eFP, h.eJMP, h.eentryIn, h.eendT, h.egv (k := 22) (by decide) (by decide), h.egv (k := 23) (by decide) (by decide), h.egv (k := 26) (by decide) (by decide), h.egv (k := 28) (by decide) (by decide), h.2.2.2.1, h.2.2.1]
    exact q
  unfold OKI
  rw [hop']
  exact hw
theorem CE.eO8 {s t : RS} (h : CE s t) {g : Gh} {k : Nat} {c : Ctx} (ho : OKI s g k c) (hop : gv s 21 k = 8) : OKI t g k c := by
  have q := okI_8 ho hop
  have hop' : gv t 21 k = 8 := (h.egv (by decide) (by decide) k).trans hop
  have h3 := h.2.2.2.2.2
  have hw : (let x := gv t 22 k; let y := gv t 23 k; let F := fun (z : Int) (h : Nat) => FL t g c.v ((k : Int) + 1) z h c.o c.rs; let n := fun (h : Nat) => FL t g c.v ((k : Int) + 1) ((k : Int) + 1) h c.o c.rs; let N := fun (h o : Nat) (rs : List Rec) => FL t g c.v ((k : Int) + 1) ((k : Int) + 1) h o rs; 2 ≤ c.h ∧ n (c.h - 1)) := by
    simp only [h.eFL, h.eFS, h.eFP, h.eJMP, h.eentryIn, h.eendT, h.egv (k := 22) (by decide) (by decide), h.egv (k := 23) (by decide) (by decide), h.egv (k := 26) (by decide) (by decide), h.egv (k := 28) (by decide) (by decide), h.2.2.2.1, h.2.2.1]
    exact q
  unfold OKI
  rw [hop']
  exact hw
theorem CE.eO9 {s t : RS} (h : CE s t) {g : Gh} {k : Nat} {c : Ctx} (ho : OKI s g k c) (hop : gv s 21 k = 9) : OKI t g k c := by
  have q := okI_9 ho hop
  have hop' : gv t 21 k = 9 := (h.egv (by decide) (by decide) k).trans hop
  have h3 := h.2.2.2.2.2
  have hw : (let x := gv t 22 k; let y := gv t 23 k; let F := fun (z : Int) (h : Nat) => FL t g c.v ((k : Int) + 1) z h c.o c.rs; let n := fun (h : Nat) => FL t g c.v ((k : Int) + 1) ((k : Int) + 1) h c.o c.rs; let N := fun (h o : Nat) (rs : List Rec) => FL t g c.v ((k : Int) + 1) ((k : Int) + 1) h o rs; 2 ≤ c.h ∧ n (c.h - 1)) := by
    simp only [h.eFL, h.eFS, h.eFP, h.eJMP, h.eentryIn, h.eendT, h.egv (k := 22) (by decide) (by decide), h.egv (k := 23) (by decide) (by decide), h.egv (k := 26) (by decide) (by decide), h.egv (k := 28) (by decide) (by decide), h.2.2.2.1, h.2.2.1]
    exact q
  unfold OKI
  rw [hop']
  exact hw
theorem CE.eO10 {s t : RS} (h : CE s t) {g : Gh} {k : Nat} {c : Ctx} (ho : OKI s g k c) (hop : gv s 21 k = 10) : OKI t g k c := by
  have q := okI_10 ho hop
  have hop' : gv t 21 k = 10 := (h.egv (by decide) (by decide) k).trans hop
  have h3 := h.2.2.2.2.2
  have hw : (let x := gv t 22 k; let y := gv t 23 k; let F := fun (z : Int) (h : Nat) => FL t g c.v ((k : Int) + 1) z h c.o c.rs; let n := fun (h : Nat) => FL t g c.v ((k : Int) + 1) ((k : Int) + 1) h c.o c.rs; let N := fun (h o : Nat) (rs : List Rec) => FL t g c.v ((k : Int) + 1) ((k : Int) + 1) h o rs; 1 ≤ c.h ∧ n c.h) := by
    simp only [h.eFL, h.eFS, h.eFP, h.eJMP, h.eentryIn, h.eendT, h.egv (k := 22) (by decide) (by decide), h.egv (k := 23) (by decide) (by decide), h.egv (k := 26) (by decide) (by decide), h.egv (k := 28) (by decide) (by decide), h.2.2.2.1, h.2.2.1]
    exact q
  unfold OKI
  rw [hop']
  exact hw
theorem CE.eO11 {s t : RS} (h : CE s t) {g : Gh} {k : Nat} {c : Ctx} (ho : OKI s g k c) (hop : gv s 21 k = 11) : OKI t g k c := by
  have q := okI_11 ho hop
  have hop' : gv t 21 k = 11 := (h.egv (by decide) (by decide) k).trans hop
  have h3 := h.2.2.2.2.2
  have hw : (let x := gv t 22 k; let y := gv t 23 k; let F := fun (z : Int) (h : Nat) => FL t g c.v ((k : Int) + 1) z h c.o c.rs; let n := fun (h : Nat) => FL t g c.v ((k : Int) + 1) ((k : Int) + 1) h c.o c.rs; let N := fun (h o : Nat) (rs : List Rec) => FL t g c.v ((k : Int) + 1) ((k : Int) + 1) h o rs; 1 ≤ c.h ∧ F x c.h ∧ n (c.h - 1)) := by
    simp only [h.eFL, h.eFS, h.eFP, h.eJMP, h.eentryIn, h.eendT, h.egv (k := 22) (by decide) (by decide), h.egv (k := 23) (by decide) (by decide), h.egv (k := 26) (by decide) (by decide), h.egv (k := 28) (by decide) (by decide), h.2.2.2.1, h.2.2.1]
    exact q
  unfold OKI
  rw [hop']
  exact hw
theorem CE.eO12 {s t : RS} (h : CE s t) {g : Gh} {k : Nat} {c : Ctx} (ho : OKI s g k c) (hop : gv s 21 k = 12) : OKI t g k c := by
  have q := okI_12 ho hop
  have hop' : gv t 21 k = 12 := (h.egv (by decide) (by decide) k).trans hop
  have h3 := h.2.2.2.2.2
  have hw : (let x := gv t 22 k; let y := gv t 23 k; let F := fun (z : Int) (h : Nat) => FL t g c.v ((k : Int) + 1) z h c.o c.rs; let n := fun (h : Nat) => FL t g c.v ((k : Int) + 1) ((k : Int) + 1) h c.o c.rs; let N := fun (h o : Nat) (rs : List Rec) => FL t g c.v ((k : Int) + 1) ((k : Int) + 1) h o rs; 1 ≤ c.h ∧ F x c.h ∧ n (c.h - 1)) := by
    simp only [h.eFL, h.eFS, h.eFP, h.eJMP, h.eentryIn, h.eendT, h.egv (k := 22) (by decide) (by decide), h.egv (k := 23) (by decide) (by decide), h.egv (k := 26) (by decide) (by decide), h.egv (k := 28) (by decide) (by decide), h.2.2.2.1, h.2.2.1]
    exact q
  unfold OKI
  rw [hop']
  exact hw
theorem CE.eO13 {s t : RS} (h : CE s t) {g : Gh} {k : Nat} {c : Ctx} (ho : OKI s g k c) (hop : gv s 21 k = 13) : OKI t g k c := by
  have q := okI_13 ho hop
  have hop' : gv t 21 k = 13 := (h.egv (by decide) (by decide) k).trans hop
  have h3 := h.2.2.2.2.2
  have hw : (let x := gv t 22 k; let y := gv t 23 k; let F := fun (z : Int) (h : Nat) => FL t g c.v ((k : Int) + 1) z h c.o c.rs; let n := fun (h : Nat) => FL t g c.v ((k : Int) + 1) ((k : Int) + 1) h c.o c.rs; let N := fun (h o : Nat) (rs : List Rec) => FL t g c.v ((k : Int) + 1) ((k : Int) + 1) h o rs; 1 ≤ c.h ∧ (c.one = false → F x (c.h - 1)) ∧ n (c.h - 1)) := by
    simp only [h.eFL, h.eFS, h.eFP, h.eJMP, h.eentryIn, h.eendT, h.egv (k := 22) (by decide) (by decide), h.egv (k := 23) (by decide) (by decide), h.egv (k := 26) (by decide) (by decide), h.egv (k := 28) (by decide) (by decide), h.2.2.2.1, h.2.2.1]
    exact q
  unfold OKI
  rw [hop']
  exact hw
theorem CE.eO14 {s t : RS} (h : CE s t) {g : Gh} {k : Nat} {c : Ctx} (ho : OKI s g k c) (hop : gv s 21 k = 14) : OKI t g k c := by
  have q := okI_14 ho hop
  have hop' : gv t 21 k = 14 := (h.egv (by decide) (by decide) k).trans hop
  have h3 := h.2.2.2.2.2
  have hw : (let x := gv t 22 k; let y := gv t 23 k; let F := fun (z : Int) (h : Nat) => FL t g c.v ((k : Int) + 1) z h c.o c.rs; let n := fun (h : Nat) => FL t g c.v ((k : Int) + 1) ((k : Int) + 1) h c.o c.rs; let N := fun (h o : Nat) (rs : List Rec) => FL t g c.v ((k : Int) + 1) ((k : Int) + 1) h o rs; 1 ≤ c.h ∧ F x (c.h - 1) ∧ (c.one = false → n (c.h - 1))) := by
    simp only [h.eFL, h.eFS, h.eFP, h.eJMP, h.eentryIn, h.eendT, h.egv (k := 22) (by decide) (by decide), h.egv (k := 23) (by decide) (by decide), h.egv (k := 26) (by decide) (by decide), h.egv (k := 28) (by decide) (by decide), h.2.2.2.1, h.2.2.1]
    exact q
  unfold OKI
  rw [hop']
  exact hw
theorem CE.eO15 {s t : RS} (h : CE s t) {g : Gh} {k : Nat} {c : Ctx} (ho : OKI s g k c) (hop : gv s 21 k = 15) : OKI t g k c := by
  have q := okI_15 ho hop
  have hop' : gv t 21 k = 15 := (h.egv (by decide) (by decide) k).trans hop
  have h3 := h.2.2.2.2.2
  have hw : (let x := gv t 22 k; let y := gv t 23 k; let F := fun (z : Int) (h : Nat) => FL t g c.v ((k : Int) + 1) z h c.o c.rs; let n := fun (h : Nat) => FL t g c.v ((k : Int) + 1) ((k : Int) + 1) h c.o c.rs; let N := fun (h o : Nat) (rs : List Rec) => FL t g c.v ((k : Int) + 1) ((k : Int) + 1) h o rs; F x c.h) := by
    simp only [h.eFL, h.eFS, h.eFP, h.eJMP, h.eentryIn, h.eendT, h.egv (k := 22) (by decide) (by decide), h.egv (k := 23) (by decide) (by decide), h.egv (k := 26) (by decide) (by decide), h.egv (k := 28) (by decide) (by decide), h.2.2.2.1, h.2.2.1]
    exact q
  unfold OKI
  rw [hop']
  exact hw
theorem CE.eO16 {s t : RS} (h : CE s t) {g : Gh} {k : Nat} {c : Ctx} (ho : OKI s g k c) (hop : gv s 21 k = 16) : OKI t g k c := by
  have q := okI_16 ho hop
  have hop' : gv t 21 k = 16 := (h.egv (by decide) (by decide) k).trans hop
  have h3 := h.2.2.2.2.2
  have hw : (let x := gv t 22 k; let y := gv t 23 k; let F := fun (z : Int) (h : Nat) => FL t g c.v ((k : Int) + 1) z h c.o c.rs; let n := fun (h : Nat) => FL t g c.v ((k : Int) + 1) ((k : Int) + 1) h c.o c.rs; let N := fun (h o : Nat) (rs : List Rec) => FL t g c.v ((k : Int) + 1) ((k : Int) + 1) h o rs; 1 ≤ c.h ∧ n (c.h - 1)) := by
    simp only [h.eFL, h.eFS, h.eFP, h.eJMP, h.eentryIn, h.eendT, h.egv (k := 22) (by decide) (by decide), h.egv (k := 23) (by decide) (by decide), h.egv (k := 26) (by decide) (by decide), h.egv (k := 28) (by decide) (by decide), h.2.2.2.1, h.2.2.1]
    exact q
  unfold OKI
  rw [hop']
  exact hw
theorem CE.eO17 {s t : RS} (h : CE s t) {g : Gh} {k : Nat} {c : Ctx} (ho : OKI s g k c) (hop : gv s 21 k = 17) : OKI t g k c := by
  have q := okI_17 ho hop
  have hop' : gv t 21 k = 17 := (h.egv (by decide) (by decide) k).trans hop
  have h3 := h.2.2.2.2.2
  have hw : (let x := gv t 22 k; let y := gv t 23 k; let F := fun (z : Int) (h : Nat) => FL t g c.v ((k : Int) + 1) z h c.o c.rs; let n := fun (h : Nat) => FL t g c.v ((k : Int) + 1) ((k : Int) + 1) h c.o c.rs; let N := fun (h o : Nat) (rs : List Rec) => FL t g c.v ((k : Int) + 1) ((k : Int) + 1) h o rs; 1 ≤ c.h) := by
    simp only [h.eFL, h.eFS, h.eFP, h.eJMP, h.eentryIn, h.eendT, h.egv (k := 22) (by decide) (by decide), h.egv (k := 23) (by decide) (by decide), h.egv (k := 26) (by decide) (by decide), h.egv (k := 28) (by decide) (by decide), h.2.2.2.1, h.2.2.1]
    exact q
  unfold OKI
  rw [hop']
  exact hw
theorem CE.eO18 {s t : RS} (h : CE s t) {g : Gh} {k : Nat} {c : Ctx} (ho : OKI s g k c) (hop : gv s 21 k = 18) : OKI t g k c := by
  have q := okI_18 ho hop
  have hop' : gv t 21 k = 18 := (h.egv (by decide) (by decide) k).trans hop
  have h3 := h.2.2.2.2.2
  have hw : (let x := gv t 22 k; let y := gv t 23 k; let F := fun (z : Int) (h : Nat) => FL t g c.v ((k : Int) + 1) z h c.o c.rs; let n := fun (h : Nat) => FL t g c.v ((k : Int) + 1) ((k : Int) + 1) h c.o c.rs; let N := fun (h o : Nat) (rs : List Rec) => FL t g c.v ((k : Int) + 1) ((k : Int) + 1) h o rs; 1 ≤ c.h ∧ YOK y c.rs) := by
    simp only [h.eFL, h.eFS, h.eFP, h.eJMP, h.eentryIn, h.eendT, h.egv (k := 22) (by decide) (by decide), h.egv (k := 23) (by decide) (by decide), h.egv (k := 26) (by decide) (by decide), h.egv (k := 28) (by decide) (by decide), h.2.2.2.1, h.2.2.1]
    exact q
  unfold OKI
  rw [hop']
  exact hw
theorem CE.eO19 {s t : RS} (h : CE s t) {g : Gh} {k : Nat} {c : Ctx} (ho : OKI s g k c) (hop : gv s 21 k = 19) : OKI t g k c := by
  have q := okI_19 ho hop
  have hop' : gv t 21 k = 19 := (h.egv (by decide) (by decide) k).trans hop
  have h3 := h.2.2.2.2.2
  have hw : (let x := gv t 22 k; let y := gv t 23 k; let F := fun (z : Int) (h : Nat) => FL t g c.v ((k : Int) + 1) z h c.o c.rs; let n := fun (h : Nat) => FL t g c.v ((k : Int) + 1) ((k : Int) + 1) h c.o c.rs; let N := fun (h o : Nat) (rs : List Rec) => FL t g c.v ((k : Int) + 1) ((k : Int) + 1) h o rs; 1 ≤ c.h ∧ x < (t.i 3).toInt) := by
    simp only [h.eFL, h.eFS, h.eFP, h.eJMP, h.eentryIn, h.eendT, h.egv (k := 22) (by decide) (by decide), h.egv (k := 23) (by decide) (by decide), h.egv (k := 26) (by decide) (by decide), h.egv (k := 28) (by decide) (by decide), h.2.2.2.1, h.2.2.1]
    exact ⟨q.1, by have := q.2; omega⟩
  unfold OKI
  rw [hop']
  exact hw
theorem CE.eO20 {s t : RS} (h : CE s t) {g : Gh} {k : Nat} {c : Ctx} (ho : OKI s g k c) (hop : gv s 21 k = 20) : OKI t g k c := by
  have q := okI_20 ho hop
  have hop' : gv t 21 k = 20 := (h.egv (by decide) (by decide) k).trans hop
  have h3 := h.2.2.2.2.2
  have hw : (let x := gv t 22 k; let y := gv t 23 k; let F := fun (z : Int) (h : Nat) => FL t g c.v ((k : Int) + 1) z h c.o c.rs; let n := fun (h : Nat) => FL t g c.v ((k : Int) + 1) ((k : Int) + 1) h c.o c.rs; let N := fun (h o : Nat) (rs : List Rec) => FL t g c.v ((k : Int) + 1) ((k : Int) + 1) h o rs; x < (t.i 3).toInt) := by
    simp only [h.eFL, h.eFS, h.eFP, h.eJMP, h.eentryIn, h.eendT, h.egv (k := 22) (by decide) (by decide), h.egv (k := 23) (by decide) (by decide), h.egv (k := 26) (by decide) (by decide), h.egv (k := 28) (by decide) (by decide), h.2.2.2.1, h.2.2.1]
    have q : gv s 22 k < (s.i 3).toInt := q
    omega
  unfold OKI
  rw [hop']
  exact hw
theorem CE.eO21 {s t : RS} (h : CE s t) {g : Gh} {k : Nat} {c : Ctx} (ho : OKI s g k c) (hop : gv s 21 k = 21) : OKI t g k c := by
  have q := okI_21 ho hop
  have hop' : gv t 21 k = 21 := (h.egv (by decide) (by decide) k).trans hop
  have h3 := h.2.2.2.2.2
  have hw : (let x := gv t 22 k; let y := gv t 23 k; let F := fun (z : Int) (h : Nat) => FL t g c.v ((k : Int) + 1) z h c.o c.rs; let n := fun (h : Nat) => FL t g c.v ((k : Int) + 1) ((k : Int) + 1) h c.o c.rs; let N := fun (h o : Nat) (rs : List Rec) => FL t g c.v ((k : Int) + 1) ((k : Int) + 1) h o rs; slotOK x ∧ g.isC x.toNat = true) := by
    simp only [h.eFL, h.eFS, h.eFP, h.eJMP, h.eentryIn, h.eendT, h.egv (k := 22) (by decide) (by decide), h.egv (k := 23) (by decide) (by decide), h.egv (k := 26) (by decide) (by decide), h.egv (k := 28) (by decide) (by decide), h.2.2.2.1, h.2.2.1]
    exact q
  unfold OKI
  rw [hop']
  exact hw
theorem CE.eO22 {s t : RS} (h : CE s t) {g : Gh} {k : Nat} {c : Ctx} (ho : OKI s g k c) (hop : gv s 21 k = 22) : OKI t g k c := by
  have q := okI_22 ho hop
  have hop' : gv t 21 k = 22 := (h.egv (by decide) (by decide) k).trans hop
  have h3 := h.2.2.2.2.2
  have hw : (let x := gv t 22 k; let y := gv t 23 k; let F := fun (z : Int) (h : Nat) => FL t g c.v ((k : Int) + 1) z h c.o c.rs; let n := fun (h : Nat) => FL t g c.v ((k : Int) + 1) ((k : Int) + 1) h c.o c.rs; let N := fun (h o : Nat) (rs : List Rec) => FL t g c.v ((k : Int) + 1) ((k : Int) + 1) h o rs; F x c.h ∧ n c.h) := by
    simp only [h.eFL, h.eFS, h.eFP, h.eJMP, h.eentryIn, h.eendT, h.egv (k := 22) (by decide) (by decide), h.egv (k := 23) (by decide) (by decide), h.egv (k := 26) (by decide) (by decide), h.egv (k := 28) (by decide) (by decide), h.2.2.2.1, h.2.2.1]
    exact q
  unfold OKI
  rw [hop']
  exact hw
theorem CE.eO23 {s t : RS} (h : CE s t) {g : Gh} {k : Nat} {c : Ctx} (ho : OKI s g k c) (hop : gv s 21 k = 23) : OKI t g k c := by
  have q := okI_23 ho hop
  have hop' : gv t 21 k = 23 := (h.egv (by decide) (by decide) k).trans hop
  have h3 := h.2.2.2.2.2
  have hw : (let x := gv t 22 k; let y := gv t 23 k; let F := fun (z : Int) (h : Nat) => FL t g c.v ((k : Int) + 1) z h c.o c.rs; let n := fun (h : Nat) => FL t g c.v ((k : Int) + 1) ((k : Int) + 1) h c.o c.rs; let N := fun (h o : Nat) (rs : List Rec) => FL t g c.v ((k : Int) + 1) ((k : Int) + 1) h o rs; 1 ≤ x ∧ x ≤ c.h ∧ (wv c.rs : Int) + x ≤ 450 ∧ N (c.h - x.toNat) c.o ((2, 0, x.toNat, c.h - x.toNat, c.o, c.v, false, false) :: c.rs)) := by
    simp only [h.eFL, h.eFS, h.eFP, h.eJMP, h.eentryIn, h.eendT, h.egv (k := 22) (by decide) (by decide), h.egv (k := 23) (by decide) (by decide), h.egv (k := 26) (by decide) (by decide), h.egv (k := 28) (by decide) (by decide), h.2.2.2.1, h.2.2.1]
    exact q
  unfold OKI
  rw [hop']
  exact hw
theorem CE.eO24 {s t : RS} (h : CE s t) {g : Gh} {k : Nat} {c : Ctx} (ho : OKI s g k c) (hop : gv s 21 k = 24) : OKI t g k c := by
  have q := okI_24 ho hop
  have hop' : gv t 21 k = 24 := (h.egv (by decide) (by decide) k).trans hop
  have h3 := h.2.2.2.2.2
  have hw : (let x := gv t 22 k; let y := gv t 23 k; let F := fun (z : Int) (h : Nat) => FL t g c.v ((k : Int) + 1) z h c.o c.rs; let n := fun (h : Nat) => FL t g c.v ((k : Int) + 1) ((k : Int) + 1) h c.o c.rs; let N := fun (h o : Nat) (rs : List Rec) => FL t g c.v ((k : Int) + 1) ((k : Int) + 1) h o rs; slotOK y ∧ g.isC y.toNat = false ∧ F x c.h ∧ FS t g ((k : Int) + 1) c.h c.o c.rs ∧ ∃ (r : Rec) (rs : List Rec), c.rs = r :: rs ∧ r.k = 2) := by
    simp only [h.eFL, h.eFS, h.eFP, h.eJMP, h.eentryIn, h.eendT, h.egv (k := 22) (by decide) (by decide), h.egv (k := 23) (by decide) (by decide), h.egv (k := 26) (by decide) (by decide), h.egv (k := 28) (by decide) (by decide), h.2.2.2.1, h.2.2.1]
    exact q
  unfold OKI
  rw [hop']
  exact hw
theorem CE.eO25 {s t : RS} (h : CE s t) {g : Gh} {k : Nat} {c : Ctx} (ho : OKI s g k c) (hop : gv s 21 k = 25) : OKI t g k c := by
  have q := okI_25 ho hop
  have hop' : gv t 21 k = 25 := (h.egv (by decide) (by decide) k).trans hop
  have h3 := h.2.2.2.2.2
  have hw : (let x := gv t 22 k; let y := gv t 23 k; let F := fun (z : Int) (h : Nat) => FL t g c.v ((k : Int) + 1) z h c.o c.rs; let n := fun (h : Nat) => FL t g c.v ((k : Int) + 1) ((k : Int) + 1) h c.o c.rs; let N := fun (h o : Nat) (rs : List Rec) => FL t g c.v ((k : Int) + 1) ((k : Int) + 1) h o rs; ∃ (r : Rec) (rs : List Rec), c.rs = r :: rs ∧ r.k = 2 ∧ N c.h c.o rs) := by
    simp only [h.eFL, h.eFS, h.eFP, h.eJMP, h.eentryIn, h.eendT, h.egv (k := 22) (by decide) (by decide), h.egv (k := 23) (by decide) (by decide), h.egv (k := 26) (by decide) (by decide), h.egv (k := 28) (by decide) (by decide), h.2.2.2.1, h.2.2.1]
    exact q
  unfold OKI
  rw [hop']
  exact hw
theorem CE.eO26 {s t : RS} (h : CE s t) {g : Gh} {k : Nat} {c : Ctx} (ho : OKI s g k c) (hop : gv s 21 k = 26) : OKI t g k c := by
  have q := okI_26 ho hop
  have hop' : gv t 21 k = 26 := (h.egv (by decide) (by decide) k).trans hop
  have h3 := h.2.2.2.2.2
  have hw : (let x := gv t 22 k; let y := gv t 23 k; let F := fun (z : Int) (h : Nat) => FL t g c.v ((k : Int) + 1) z h c.o c.rs; let n := fun (h : Nat) => FL t g c.v ((k : Int) + 1) ((k : Int) + 1) h c.o c.rs; let N := fun (h o : Nat) (rs : List Rec) => FL t g c.v ((k : Int) + 1) ((k : Int) + 1) h o rs; 0 ≤ x ∧ x < 8 ∧ N c.h c.o ((1, x.toNat, 0, c.h, c.o, c.v, false, false) :: c.rs)) := by
    simp only [h.eFL, h.eFS, h.eFP, h.eJMP, h.eentryIn, h.eendT, h.egv (k := 22) (by decide) (by decide), h.egv (k := 23) (by decide) (by decide), h.egv (k := 26) (by decide) (by decide), h.egv (k := 28) (by decide) (by decide), h.2.2.2.1, h.2.2.1]
    exact q
  unfold OKI
  rw [hop']
  exact hw
theorem CE.eO27 {s t : RS} (h : CE s t) {g : Gh} {k : Nat} {c : Ctx} (ho : OKI s g k c) (hop : gv s 21 k = 27) : OKI t g k c := by
  have q := okI_27 ho hop
  have hop' : gv t 21 k = 27 := (h.egv (by decide) (by decide) k).trans hop
  have h3 := h.2.2.2.2.2
  have hw : (let x := gv t 22 k; let y := gv t 23 k; let F := fun (z : Int) (h : Nat) => FL t g c.v ((k : Int) + 1) z h c.o c.rs; let n := fun (h : Nat) => FL t g c.v ((k : Int) + 1) ((k : Int) + 1) h c.o c.rs; let N := fun (h o : Nat) (rs : List Rec) => FL t g c.v ((k : Int) + 1) ((k : Int) + 1) h o rs; ∃ (r : Rec) (rs : List Rec), c.rs = r :: rs ∧ r.k = 1 ∧ N c.h c.o rs) := by
    simp only [h.eFL, h.eFS, h.eFP, h.eJMP, h.eentryIn, h.eendT, h.egv (k := 22) (by decide) (by decide), h.egv (k := 23) (by decide) (by decide), h.egv (k := 26) (by decide) (by decide), h.egv (k := 28) (by decide) (by decide), h.2.2.2.1, h.2.2.1]
    exact q
  unfold OKI
  rw [hop']
  exact hw
theorem CE.eO28 {s t : RS} (h : CE s t) {g : Gh} {k : Nat} {c : Ctx} (ho : OKI s g k c) (hop : gv s 21 k = 28) : OKI t g k c := by
  have q := okI_28 ho hop
  have hop' : gv t 21 k = 28 := (h.egv (by decide) (by decide) k).trans hop
  have h3 := h.2.2.2.2.2
  have hw : (let x := gv t 22 k; let y := gv t 23 k; let F := fun (z : Int) (h : Nat) => FL t g c.v ((k : Int) + 1) z h c.o c.rs; let n := fun (h : Nat) => FL t g c.v ((k : Int) + 1) ((k : Int) + 1) h c.o c.rs; let N := fun (h o : Nat) (rs : List Rec) => FL t g c.v ((k : Int) + 1) ((k : Int) + 1) h o rs; 1 ≤ c.h ∧ x < (t.i 24).toInt ∧ (∀ j : Nat, entryIn t j 500 x → F (gv t 26 j) (c.h - 1)) ∧ (¬ (∃ j : Nat, entryIn t j 500 x ∧ ¬ gv t 28 j = 0) → F y (c.h - 1))) := by
    simp only [h.eFL, h.eFS, h.eFP, h.eJMP, h.eentryIn, h.eendT, h.egv (k := 22) (by decide) (by decide), h.egv (k := 23) (by decide) (by decide), h.egv (k := 26) (by decide) (by decide), h.egv (k := 28) (by decide) (by decide), h.2.2.2.1, h.2.2.1]
    exact q
  unfold OKI
  rw [hop']
  exact hw
theorem CE.eO29 {s t : RS} (h : CE s t) {g : Gh} {k : Nat} {c : Ctx} (ho : OKI s g k c) (hop : gv s 21 k = 29) : OKI t g k c := by
  have q := okI_29 ho hop
  have hop' : gv t 21 k = 29 := (h.egv (by decide) (by decide) k).trans hop
  have h3 := h.2.2.2.2.2
  have hw : (let x := gv t 22 k; let y := gv t 23 k; let F := fun (z : Int) (h : Nat) => FL t g c.v ((k : Int) + 1) z h c.o c.rs; let n := fun (h : Nat) => FL t g c.v ((k : Int) + 1) ((k : Int) + 1) h c.o c.rs; let N := fun (h o : Nat) (rs : List Rec) => FL t g c.v ((k : Int) + 1) ((k : Int) + 1) h o rs; 1 ≤ c.h ∧ x < (t.i 24).toInt ∧ (∀ j : Nat, entryIn t j 500 x → FL t g c.v ((k : Int) + 1) (gv t 26 j) (c.h - 1) c.o ((3, k, 0, c.h - 1, c.o, c.v, false, false) :: c.rs)) ∧ ∃ j : Nat, entryIn t j 500 x ∧ ¬ gv t 28 j = 0) := by
    simp only [h.eFL, h.eFS, h.eFP, h.eJMP, h.eentryIn, h.eendT, h.egv (k := 22) (by decide) (by decide), h.egv (k := 23) (by decide) (by decide), h.egv (k := 26) (by decide) (by decide), h.egv (k := 28) (by decide) (by decide), h.2.2.2.1, h.2.2.1]
    exact q
  unfold OKI
  rw [hop']
  exact hw
theorem CE.eO30 {s t : RS} (h : CE s t) {g : Gh} {k : Nat} {c : Ctx} (ho : OKI s g k c) (hop : gv s 21 k = 30) : OKI t g k c := by
  have q := okI_30 ho hop
  have hop' : gv t 21 k = 30 := (h.egv (by decide) (by decide) k).trans hop
  have h3 := h.2.2.2.2.2
  have hw : (let x := gv t 22 k; let y := gv t 23 k; let F := fun (z : Int) (h : Nat) => FL t g c.v ((k : Int) + 1) z h c.o c.rs; let n := fun (h : Nat) => FL t g c.v ((k : Int) + 1) ((k : Int) + 1) h c.o c.rs; let N := fun (h o : Nat) (rs : List Rec) => FL t g c.v ((k : Int) + 1) ((k : Int) + 1) h o rs; ∃ (r : Rec) (rs : List Rec), c.rs = r :: rs ∧ r.k = 3 ∧ c.h = r.h + 1) := by
    simp only [h.eFL, h.eFS, h.eFP, h.eJMP, h.eentryIn, h.eendT, h.egv (k := 22) (by decide) (by decide), h.egv (k := 23) (by decide) (by decide), h.egv (k := 26) (by decide) (by decide), h.egv (k := 28) (by decide) (by decide), h.2.2.2.1, h.2.2.1]
    exact q
  unfold OKI
  rw [hop']
  exact hw
theorem CE.eO31 {s t : RS} (h : CE s t) {g : Gh} {k : Nat} {c : Ctx} (ho : OKI s g k c) (hop : gv s 21 k = 31) : OKI t g k c := by
  have q := okI_31 ho hop
  have hop' : gv t 21 k = 31 := (h.egv (by decide) (by decide) k).trans hop
  have h3 := h.2.2.2.2.2
  have hw : (let x := gv t 22 k; let y := gv t 23 k; let F := fun (z : Int) (h : Nat) => FL t g c.v ((k : Int) + 1) z h c.o c.rs; let n := fun (h : Nat) => FL t g c.v ((k : Int) + 1) ((k : Int) + 1) h c.o c.rs; let N := fun (h o : Nat) (rs : List Rec) => FL t g c.v ((k : Int) + 1) ((k : Int) + 1) h o rs; 0 ≤ x ∧ x < (t.i 29).toInt ∧ ∃ ps ek : Bool, N c.h c.o ((4, x.toNat, 0, c.h, c.o, c.v, ps, ek) :: c.rs)) := by
    simp only [h.eFL, h.eFS, h.eFP, h.eJMP, h.eentryIn, h.eendT, h.egv (k := 22) (by decide) (by decide), h.egv (k := 23) (by decide) (by decide), h.egv (k := 26) (by decide) (by decide), h.egv (k := 28) (by decide) (by decide), h.2.2.2.1, h.2.2.1]
    exact q
  unfold OKI
  rw [hop']
  exact hw
theorem CE.eO32 {s t : RS} (h : CE s t) {g : Gh} {k : Nat} {c : Ctx} (ho : OKI s g k c) (hop : gv s 21 k = 32) : OKI t g k c := by
  have q := okI_32 ho hop
  have hop' : gv t 21 k = 32 := (h.egv (by decide) (by decide) k).trans hop
  have h3 := h.2.2.2.2.2
  have hw : (let x := gv t 22 k; let y := gv t 23 k; let F := fun (z : Int) (h : Nat) => FL t g c.v ((k : Int) + 1) z h c.o c.rs; let n := fun (h : Nat) => FL t g c.v ((k : Int) + 1) ((k : Int) + 1) h c.o c.rs; let N := fun (h o : Nat) (rs : List Rec) => FL t g c.v ((k : Int) + 1) ((k : Int) + 1) h o rs; 0 ≤ x ∧ x < 8 ∧ N c.h (c.o + 1) c.rs) := by
    simp only [h.eFL, h.eFS, h.eFP, h.eJMP, h.eentryIn, h.eendT, h.egv (k := 22) (by decide) (by decide), h.egv (k := 23) (by decide) (by decide), h.egv (k := 26) (by decide) (by decide), h.egv (k := 28) (by decide) (by decide), h.2.2.2.1, h.2.2.1]
    exact q
  unfold OKI
  rw [hop']
  exact hw
theorem CE.eO33 {s t : RS} (h : CE s t) {g : Gh} {k : Nat} {c : Ctx} (ho : OKI s g k c) (hop : gv s 21 k = 33) : OKI t g k c := by
  have q := okI_33 ho hop
  have hop' : gv t 21 k = 33 := (h.egv (by decide) (by decide) k).trans hop
  have h3 := h.2.2.2.2.2
  have hw : (let x := gv t 22 k; let y := gv t 23 k; let F := fun (z : Int) (h : Nat) => FL t g c.v ((k : Int) + 1) z h c.o c.rs; let n := fun (h : Nat) => FL t g c.v ((k : Int) + 1) ((k : Int) + 1) h c.o c.rs; let N := fun (h o : Nat) (rs : List Rec) => FL t g c.v ((k : Int) + 1) ((k : Int) + 1) h o rs; ∃ (r : Rec) (rs : List Rec), c.rs = r :: rs ∧ r.k = 4 ∧ r.p = 0 ∧ c.h = r.h ∧ endT t g k c.v r rs) := by
    simp only [h.eFL, h.eFS, h.eFP, h.eJMP, h.eentryIn, h.eendT, h.egv (k := 22) (by decide) (by decide), h.egv (k := 23) (by decide) (by decide), h.egv (k := 26) (by decide) (by decide), h.egv (k := 28) (by decide) (by decide), h.2.2.2.1, h.2.2.1]
    exact q
  unfold OKI
  rw [hop']
  exact hw
theorem CE.eO34 {s t : RS} (h : CE s t) {g : Gh} {k : Nat} {c : Ctx} (ho : OKI s g k c) (hop : gv s 21 k = 34) : OKI t g k c := by
  have q := okI_34 ho hop
  have hop' : gv t 21 k = 34 := (h.egv (by decide) (by decide) k).trans hop
  have h3 := h.2.2.2.2.2
  have hw : (let x := gv t 22 k; let y := gv t 23 k; let F := fun (z : Int) (h : Nat) => FL t g c.v ((k : Int) + 1) z h c.o c.rs; let n := fun (h : Nat) => FL t g c.v ((k : Int) + 1) ((k : Int) + 1) h c.o c.rs; let N := fun (h o : Nat) (rs : List Rec) => FL t g c.v ((k : Int) + 1) ((k : Int) + 1) h o rs; ∃ (r : Rec) (rs : List Rec), c.rs = r :: rs ∧ r.k = 4 ∧ r.p = 1 ∧ c.h = r.h ∧ endT t g k c.v r rs) := by
    simp only [h.eFL, h.eFS, h.eFP, h.eJMP, h.eentryIn, h.eendT, h.egv (k := 22) (by decide) (by decide), h.egv (k := 23) (by decide) (by decide), h.egv (k := 26) (by decide) (by decide), h.egv (k := 28) (by decide) (by decide), h.2.2.2.1, h.2.2.1]
    exact q
  unfold OKI
  rw [hop']
  exact hw
theorem CE.eO35 {s t : RS} (h : CE s t) {g : Gh} {k : Nat} {c : Ctx} (ho : OKI s g k c) (hop : gv s 21 k = 35) : OKI t g k c := by
  have q := okI_35 ho hop
  have hop' : gv t 21 k = 35 := (h.egv (by decide) (by decide) k).trans hop
  have h3 := h.2.2.2.2.2
  have hw : (let x := gv t 22 k; let y := gv t 23 k; let F := fun (z : Int) (h : Nat) => FL t g c.v ((k : Int) + 1) z h c.o c.rs; let n := fun (h : Nat) => FL t g c.v ((k : Int) + 1) ((k : Int) + 1) h c.o c.rs; let N := fun (h o : Nat) (rs : List Rec) => FL t g c.v ((k : Int) + 1) ((k : Int) + 1) h o rs; ∃ (r : Rec) (rs : List Rec), c.rs = r :: rs ∧ r.k = 4 ∧ r.p = 2 ∧ c.h = r.h ∧ c.v = r.v ∧ r.ps = true ∧ (r.ek = true → N r.h r.o rs)) := by
    simp only [h.eFL, h.eFS, h.eFP, h.eJMP, h.eentryIn, h.eendT, h.egv (k := 22) (by decide) (by decide), h.egv (k := 23) (by decide) (by decide), h.egv (k := 26) (by decide) (by decide), h.egv (k := 28) (by decide) (by decide), h.2.2.2.1, h.2.2.1]
    exact q
  unfold OKI
  rw [hop']
  exact hw
theorem CE.eO36 {s t : RS} (h : CE s t) {g : Gh} {k : Nat} {c : Ctx} (ho : OKI s g k c) (hop : gv s 21 k = 36) : OKI t g k c := by
  have q := okI_36 ho hop
  have hop' : gv t 21 k = 36 := (h.egv (by decide) (by decide) k).trans hop
  have h3 := h.2.2.2.2.2
  have hw : (let x := gv t 22 k; let y := gv t 23 k; let F := fun (z : Int) (h : Nat) => FL t g c.v ((k : Int) + 1) z h c.o c.rs; let n := fun (h : Nat) => FL t g c.v ((k : Int) + 1) ((k : Int) + 1) h c.o c.rs; let N := fun (h o : Nat) (rs : List Rec) => FL t g c.v ((k : Int) + 1) ((k : Int) + 1) h o rs; 0 ≤ y ∧ JMP t g c.v ((k : Int) + 1) x y.toNat c.h c.o c.rs) := by
    simp only [h.eFL, h.eFS, h.eFP, h.eJMP, h.eentryIn, h.eendT, h.egv (k := 22) (by decide) (by decide), h.egv (k := 23) (by decide) (by decide), h.egv (k := 26) (by decide) (by decide), h.egv (k := 28) (by decide) (by decide), h.2.2.2.1, h.2.2.1]
    exact q
  unfold OKI
  rw [hop']
  exact hw
theorem CE.eOKI {s t : RS} (h : CE s t) {g : Gh} {k : Nat} {c : Ctx} (ho : OKI s g k c) : OKI t g k c := by
  obtain ⟨m, h1, h2, hm⟩ := okI_range ho
  rcases (show m = 1 ∨ m = 2 ∨ m = 3 ∨ m = 4 ∨ m = 5 ∨ m = 6 ∨ m = 7 ∨ m = 8 ∨ m = 9 ∨ m = 10 ∨ m = 11 ∨ m = 12 ∨ m = 13 ∨ m = 14 ∨ m = 15 ∨ m = 16 ∨ m = 17 ∨ m = 18 ∨ m = 19 ∨ m = 20 ∨ m = 21 ∨ m = 22 ∨ m = 23 ∨ m = 24 ∨ m = 25 ∨ m = 26 ∨ m = 27 ∨ m = 28 ∨ m = 29 ∨ m = 30 ∨ m = 31 ∨ m = 32 ∨ m = 33 ∨ m = 34 ∨ m = 35 ∨ m = 36 by omega) with rfl | rfl | rfl | rfl | rfl | rfl | rfl | rfl | rfl | rfl | rfl | rfl | rfl | rfl | rfl | rfl | rfl | rfl | rfl | rfl | rfl | rfl | rfl | rfl | rfl | rfl | rfl | rfl | rfl | rfl | rfl | rfl | rfl | rfl | rfl | rfl
  · exact h.eO1 ho hm
  · exact h.eO2 ho hm
  · exact h.eO3 ho hm
  · exact h.eO4 ho hm
  · exact h.eO5 ho hm
  · exact h.eO6 ho hm
  · exact h.eO7 ho hm
  · exact h.eO8 ho hm
  · exact h.eO9 ho hm
  · exact h.eO10 ho hm
  · exact h.eO11 ho hm
  · exact h.eO12 ho hm
  · exact h.eO13 ho hm
  · exact h.eO14 ho hm
  · exact h.eO15 ho hm
  · exact h.eO16 ho hm
  · exact h.eO17 ho hm
  · exact h.eO18 ho hm
  · exact h.eO19 ho hm
  · exact h.eO20 ho hm
  · exact h.eO21 ho hm
  · exact h.eO22 ho hm
  · exact h.eO23 ho hm
  · exact h.eO24 ho hm
  · exact h.eO25 ho hm
  · exact h.eO26 ho hm
  · exact h.eO27 ho hm
  · exact h.eO28 ho hm
  · exact h.eO29 ho hm
  · exact h.eO30 ho hm
  · exact h.eO31 ho hm
  · exact h.eO32 ho hm
  · exact h.eO33 ho hm
  · exact h.eO34 ho hm
  · exact h.eO35 ho hm
  · exact h.eO36 ho hm
theorem WT.of {s t : RS} {g : Gh} (hW : WT s g) (h : CE s t) : WT t g := by
  obtain ⟨w1, w2, w3, w4, w5, w6, w7, w8, w9, w10, w11⟩ := hW
  refine ⟨by rw [h.ecd]; exact w1, by rw [h.2.2.2.1]; exact w2, by rw [h.2.2.2.2.1]; exact w3, by rw [h.2.2.1]; exact w4, ?_, ?_, ?_, by rw [h.ecd]; exact w8, ?_, w10, w11⟩
  · intro k hk
    rw [h.2.2.2.2.1] at hk ⊢
    rw [h.egv (by decide) (by decide)]
    exact w5 k hk
  · intro k hk
    rw [h.2.2.2.1] at hk
    rw [h.2.2.2.2.1, h.egv (by decide) (by decide)]
    exact w6 k hk
  · intro k hk
    rw [h.2.2.1] at hk ⊢
    rw [h.egv (by decide) (by decide)]
    exact w7 k hk
  · intro k c hk hT
    rw [h.ecd] at hk
    obtain ⟨a1, a2, a3⟩ := w9 k c hk hT
    exact ⟨h.eOKI a1, by rw [h.erecsOK]; exact a2, a3⟩
/-- between two instructions -/
def LI (s σ : RS) (g : Gh) : Prop := RX s σ ∧ RB σ ∧ RD σ g ∧ (σ.i 115 = 3 → 0 ≤ (σ.i 114).toInt ∧ (σ.i 114).toInt < 3200) ∧ (0 ≤ (σ.i 92).toInt → σ.i 115 = 0)
/-- what a run leaves -/
def RR (σ : RS) : Prop := (0 ≤ σ.i 81 ∧ σ.i 81 ≤ 200) ∧ (σ.i 115 = 3 → 0 ≤ (σ.i 114).toInt ∧ (σ.i 114).toInt < 3200) ∧ (∀ t : Nat, t < 3200 → 0 ≤ gv σ 88 t ∧ gv σ 88 t ≤ 8) ∧ (∀ t : Nat, t < 3200 → gv σ 86 t < (σ.i 3).toInt)
theorem LI.rr {s σ : RS} {g : Gh} (h : LI s σ g) : RR σ := ⟨h.2.2.1.2.2.1, h.2.2.2.1, h.2.2.1.2.2.2.2.2.1, h.2.2.1.2.2.2.2.2.2⟩
theorem p_run163 {N : Nat} {s σ : RS} {g : Gh} (h : LI s σ g) : ok (f_X12_run_163 N σ) (fun R => RX s R.2 ∧ RB R.2 ∧ RR R.2) := by
  unfold f_X12_run_163
  repeat' (first | exact ok_some ⟨h.1, h.2.1, h.rr⟩ | refine ok_ite (fun _ => ?_) (fun _ => ?_))
theorem p_run122 {N : Nat} (hN : 1000 ≤ N) {s : RS} {g : Gh} (hW : WT s g) (hB : RB s) : ∀ (n : Nat) (σ : RS), LI s σ g → ((σ.i 92).toInt < 0 ∨ cdI s ≤ (σ.i 92).toInt ∨ ∃ c, 0 ≤ (σ.i 92).toInt ∧ g.T (σ.i 92).toInt.toNat c ∧ DY s σ g c ∧ (1000 - (σ.i 80).toInt) * 9006001 + (c.v : Int) * 3000 + (cdI s - (σ.i 92).toInt) < n) → 1 ≤ n → ok (f_X12_run_122 N n σ) (fun R => RX s R.2 ∧ RB R.2 ∧ RR R.2)
  | 0, _, _, _, h => by omega
  | n+1, σ, hL, ho, _ => by
    show ok (b_X12_run_122 N (f_X12_run_122 N n) σ) _
    unfold b_X12_run_122
    refine ok_ite (fun _ => p_run163 hL) (fun c1 => ok_ite (fun _ => p_run163 hL) (fun c2 => ?_))
    have h0 : 0 ≤ (σ.i 92).toInt := by have := le_int (Int32.not_lt.mp c1); rw [z_t0] at this; exact this
    have e20 : σ.i 20 = s.i 20 := hL.1.2.2.1 20 (by decide)
    have h1 : (σ.i 92).toInt < cdI s := by have := lt_int (Int32.not_le.mp c2); rw [e20] at this; exact this
    rcases ho with ho | ho | ⟨c, o1, o2, o3, o4⟩
    · omega
    · omega
    · obtain ⟨d1, d2, d3, d4, d5, d6, d7⟩ := o3
      have hcd := hW.1
      have e1 : (1 : Int32).toInt = 1 := by decide
      have es : (σ.i 92 + 1).toInt = (σ.i 92).toInt + 1 := by rw [toInt_add] <;> rw [e1] <;> omega
      have ek : ((σ.i 92).toInt.toNat : Int) = (σ.i 92).toInt := Int.toNat_of_nonneg h0
      have hb : BS s σ (σ.setI 92 (σ.i 92 + 1)) g := ⟨hL.1.tr (RX.i _ _ _ (by decide)), RD.of hL.2.2.1 rfl rfl rfl rfl rfl rfl rfl rfl rfl, rfl, rfl⟩
      have hs : ST s (σ.setI 92 (σ.i 92 + 1)) g c.h c.o c.rs := ⟨d1, d2, d3, d4, d5, RM.of (σ := σ) (fun _ _ _ _ _ => rfl) d6⟩
      have hp : PRE s σ (σ.setI 92 (σ.i 92 + 1)) g (σ.i 92).toInt.toNat c (σ.i 92) := ⟨hW, hB, by omega, o2, hb, hs, by rw [ek]; exact es, ek.symm, d7⟩
      refine ok_bind (p_act hN hp) (fun R hR => ?_)
      obtain ⟨a1, a2, a3, a4, a5⟩ := hR
      have h80 : 0 ≤ (σ.i 80).toInt ∧ (σ.i 80).toInt ≤ 1000 := by
        have := hL.2.2.1.2.2.2.2.1
        have x := le_int this.1
        have y := le_int this.2
        rw [z_t0] at x
        rw [show (1000 : Int32).toInt = 1000 by decide] at y
        exact ⟨x, y⟩
      have hcv : c.v ≤ 3000 := hp.fact.2.2.2.2.2.2.2.1
      have h115 : σ.i 115 = 0 := hL.2.2.2.2 h0
      have hLR : LI s R g := by
        refine ⟨a1, a2, a3, ?_, ?_⟩
        · rcases a5 with a5 | a5
          · intro z
            rw [a5, h115] at z
            exact absurd z (by decide)
          · exact a5.2
        · rcases a5 with a5 | a5
          · intro _; rw [a5, h115]
          · intro z; have := a5.1; omega
      refine p_run122 hN hW hB n R hLR ?_ (by omega)
      rcases a4 with ⟨a4, a6⟩ | ⟨a4, a6⟩
      · rcases a6 with a6 | a6 | ⟨c', b1, b2, b3, b4⟩
        · exact Or.inl a6
        · exact Or.inr (Or.inl a6)
        · by_cases hlt : (R.i 92).toInt < cdI s
          · refine Or.inr (Or.inr ⟨c', b1, b2, b3, ?_⟩)
            rw [a4]
            rcases b4 with b4 | ⟨b4, b5⟩
            · omega
            · omega
          · exact Or.inr (Or.inl (by omega))
      · rcases a6 with a6 | a6 | ⟨c', b1, b2, b3⟩
        · exact Or.inl a6
        · exact Or.inr (Or.inl a6)
        · by_cases hlt : (R.i 92).toInt < cdI s
          · refine Or.inr (Or.inr ⟨c', b1, b2, b3, ?_⟩)
            have hv' : c'.v ≤ 3000 := (hW.2.2.2.2.2.2.2.2.1 _ c' (by omega) b2).2.2.2.2.2.2.2.1
            rw [a4]
            omega
          · exact Or.inr (Or.inl (by omega))
/-- what a run, with its clearing, leaves as it is -/
def RZ (s t : RS) : Prop := t.i = s.i ∧ t.l = s.l ∧ t.b = s.b ∧ ∀ k : Nat, k ≠ 84 → k ≠ 91 → t.a k = s.a k
theorem RZ.a84 {s t : RS} (h : RZ s t) (j : Nat) (v : Int32) : RZ s (t.setA 84 j v) := ⟨h.1, h.2.1, h.2.2.1, fun k a b => (if_neg a).trans (h.2.2.2 k a b)⟩
theorem RZ.a91 {s t : RS} (h : RZ s t) (j : Nat) (v : Int32) : RZ s (t.setA 91 j v) := ⟨h.1, h.2.1, h.2.2.1, fun k a b => (if_neg b).trans (h.2.2.2 k a b)⟩
def RUNP (s t : RS) : Prop := (∀ j : Nat, j < 79 → t.i j = s.i j) ∧ t.l = s.l ∧ t.b = s.b ∧ (∀ k : Nat, k < 82 → t.a k = s.a k) ∧ t.i 79 = 1 ∧ RB t ∧ RR t
theorem p_run39 {N : Nat} (hN : 10000000000 ≤ N) {s : RS} {g : Gh} (hW : WT s g) (hB : RB s) (hR : RR s) (x1 x2 : Int32) : ∀ (n : Nat) (σ : RS) (x3 : Int32), RZ s σ → (∀ j : Nat, j < 460 → σ.a 84 j = 0) → 0 ≤ x3.toInt → x3.toInt ≤ 8 → 8 - x3.toInt < n → ok (f_X12_run_39 N n σ x1 x2 x3) (fun R => RUNP s R.2)
  | 0, _, _, _, _, _, _, h => by omega
  | n+1, σ, x3, hZ, hv, h0, h8, hn => by
    show ok (b_X12_run_39 N (f_X12_run_39 N n) σ x1 x2 x3) _
    unfold b_X12_run_39
    have e8 : (8 : Int32).toInt = 8 := by decide
    have e1 : (1 : Int32).toInt = 1 := by decide
    refine ok_ite (fun c => ?_) (fun c => ?_)
    · generalize hτ : (RS.setI (RS.setI (RS.setI (RS.setI (RS.setI (RS.setI (RS.setI (RS.setI (RS.setI (RS.setI (RS.setA (RS.setA σ 84 ((0 : Int32).toNatClampNeg) x1) 84 ((1 : Int32).toNatClampNeg) x2) 80 0) 81 0) 85 0) 95 0) 97 0) 99 0) 93 0) 79 1) 115 0) 92 0) = τ
      have ti : ∀ j : Nat, τ.i j = if j = 92 then 0 else if j = 115 then 0 else if j = 79 then 1 else if j = 93 then 0 else if j = 99 then 0 else if j = 97 then 0 else if j = 95 then 0 else if j = 85 then 0 else if j = 81 then 0 else if j = 80 then 0 else σ.i j := fun j => by rw [← hτ]; rfl
      have ta : ∀ k : Nat, k ≠ 84 → τ.a k = σ.a k := fun k hk => by rw [← hτ]; exact (if_neg hk).trans (if_neg hk)
      have t84 : ∀ j : Nat, 2 ≤ j → τ.a 84 j = σ.a 84 j := fun j hj => by
        rw [← hτ]
        show (if j = (1 : Int32).toNatClampNeg then x2 else if j = (0 : Int32).toNatClampNeg then x1 else σ.a 84 j) = σ.a 84 j
        rw [if_neg (by rw [show (1 : Int32).toNatClampNeg = 1 by decide]; omega), if_neg (by rw [show (0 : Int32).toNatClampNeg = 0 by decide]; omega)]
      have tl : τ.l = s.l := by rw [← hτ]; exact hZ.2.1
      have tb : τ.b = s.b := by rw [← hτ]; exact hZ.2.2.1
      have tj : ∀ j : Nat, j < 79 → τ.i j = s.i j := fun j hj => by
        rw [ti, if_neg (by omega), if_neg (by omega), if_neg (by omega), if_neg (by omega), if_neg (by omega), if_neg (by omega), if_neg (by omega), if_neg (by omega), if_neg (by omega), if_neg (by omega), hZ.1]
      have tk : ∀ k : Nat, k ≠ 84 → k ≠ 91 → τ.a k = s.a k := fun k h1 h2 => (ta k h1).trans (hZ.2.2.2 k h1 h2)
      have hWτ : WT τ g := hW.of ⟨fun k h1 h2 => tk k (by omega) (by omega), tj 20 (by decide), tj 24 (by decide), tj 29 (by decide), tj 33 (by decide), by rw [tj 3 (by decide)]; exact Int.le_refl _⟩
      have hBτ : RB τ := RB.of (tj 2 (by decide)) (tj 3 (by decide)) (tk 4 (by decide) (by decide)) (tk 6 (by decide) (by decide)) (tk 7 (by decide) (by decide)) hB
      have i92 : τ.i 92 = 0 := ti 92
      have i115 : τ.i 115 = 0 := ti 115
      have i79 : τ.i 79 = 1 := ti 79
      have i93 : τ.i 93 = 0 := ti 93
      have i99 : τ.i 99 = 0 := ti 99
      have i97 : τ.i 97 = 0 := ti 97
      have i95 : τ.i 95 = 0 := ti 95
      have i85 : τ.i 85 = 0 := ti 85
      have i81 : τ.i 81 = 0 := ti 81
      have i80 : τ.i 80 = 0 := ti 80
      have hD : RD τ g := by
        refine ⟨fun j _ h2 => ?_, fun x hx hc => ?_, ?_, ?_, ?_, fun t ht => ?_, fun t ht => ?_⟩
        · rw [i95, z_t0] at h2; omega
        · have hx2 : 2 ≤ x := by
            rcases (show x = 0 ∨ x = 1 ∨ 2 ≤ x by omega) with rfl | rfl | h
            · rw [hW.2.2.2.2.2.2.2.2.2.1] at hc; cases hc
            · rw [hW.2.2.2.2.2.2.2.2.2.2] at hc; cases hc
            · exact h
          have : gv τ 84 x = 0 := by unfold gv; rw [t84 x hx2, hv x hx]; exact z_t0
          rw [this]; decide
        · rw [i81]; decide
        · rw [i85]; decide
        · rw [i80]; decide
        · rw [gv_of (tk 88 (by decide) (by decide))]; exact hR.2.2.1 t ht
        · rw [gv_of (tk 86 (by decide) (by decide)), tj 3 (by decide)]; exact hR.2.2.2 t ht
      have hL : LI τ τ g := ⟨RX.rf _, hBτ, hD, fun z => by rw [i115] at z; exact absurd z (by decide), fun _ => i115⟩
      refine ok_imp (p_run122 (by omega) hWτ hBτ N τ hL ?_ (by omega)) (fun R hRR => ⟨fun j hj => (hRR.1.2.2.1 j (by omega)).trans (tj j hj), hRR.1.1.trans tl, hRR.1.2.1.trans tb, fun k hk => (hRR.1.2.2.2 k hk).trans (tk k (by omega) (by omega)), (hRR.1.2.2.1 79 (by decide)).trans i79, hRR.2.1, hRR.2.2⟩)
      rw [i92, z_t0]
      have hcd := hWτ.1
      by_cases hc0 : 0 < cdI τ
      · obtain ⟨c, d1, d2, d3, d4⟩ := hWτ.2.2.2.2.2.2.2.1 hc0
        have hv' : c.v ≤ 3000 := (hWτ.2.2.2.2.2.2.2.2.1 0 c (by omega) d1).2.2.2.2.2.2.2.1
        refine Or.inr (Or.inr ⟨c, by omega, d1, ⟨?_, ?_, ?_, ?_, ?_, ?_, ?_⟩, ?_⟩)
        · rw [i93, d2]; decide
        · rw [i97, d4]; decide
        · rw [i95]; decide
        · rw [i95, z_t0]; omega
        · rw [i99, d4]; decide
        · rw [d4]; exact True.intro
        · intro q; rw [d3] at q; cases q
        · rw [i80, z_t0]; omega
      · exact Or.inr (Or.inl (by omega))
    · have hlt : x3.toInt < 8 := by have := lt_int (Int32.not_le.mp c); rw [e8] at this; exact this
      have es : (x3 + 1).toInt = x3.toInt + 1 := by rw [toInt_add] <;> rw [e1] <;> omega
      exact ok_chk ⟨h0, by omega⟩ (p_run39 hN hW hB hR x1 x2 n _ (x3 + 1) (hZ.a91 _ _) hv (by omega) (by omega) (by omega))
theorem p_run17 {N : Nat} (hN : 10000000000 ≤ N) {s : RS} {g : Gh} (hW : WT s g) (hB : RB s) (hR : RR s) (x1 x2 : Int32) : ∀ (n : Nat) (σ : RS) (x3 : Int32), RZ s σ → (∀ j : Nat, (j : Int) < x3.toInt → σ.a 84 j = 0) → 0 ≤ x3.toInt → x3.toInt ≤ 460 → 460 - x3.toInt < n → ok (f_X12_run_17 N n σ x1 x2 x3) (fun R => RUNP s R.2)
  | 0, _, _, _, _, _, _, h => by omega
  | n+1, σ, x3, hZ, hv, h0, h8, hn => by
    show ok (b_X12_run_17 N (f_X12_run_17 N n) σ x1 x2 x3) _
    unfold b_X12_run_17
    have e8 : (460 : Int32).toInt = 460 := by decide
    have e1 : (1 : Int32).toInt = 1 := by decide
    refine ok_ite (fun c => ?_) (fun c => ?_)
    · have hc := le_int c
      rw [e8] at hc
      exact p_run39 hN hW hB hR x1 x2 N σ 0 hZ (fun j hj => hv j (by omega)) (by decide) (by decide) (by rw [z_t0]; omega)
    · have hlt : x3.toInt < 460 := by have := lt_int (Int32.not_le.mp c); rw [e8] at this; exact this
      have es : (x3 + 1).toInt = x3.toInt + 1 := by rw [toInt_add] <;> rw [e1] <;> omega
      refine ok_chk ⟨h0, by omega⟩ (p_run17 hN hW hB hR x1 x2 n _ (x3 + 1) (hZ.a84 _ _) (fun j hj => ?_) (by omega) (by omega) (by omega))
      show (if j = x3.toNatClampNeg then (0 : Int32) else σ.a 84 j) = 0
      by_cases w : j = x3.toNatClampNeg
      · exact if_pos w
      · rw [if_neg w]
        have := clampI h0
        exact hv j (by omega)
/-- run: where there is a program, it is as expected -/
theorem p_run {N : Nat} (hN : 10000000000 ≤ N) (σ : RS) (x1 x2 : Int32) (hB : RB σ) (hR : RR σ) (hW : ¬ σ.i 77 = 0 → ∃ g, WT σ g) : ok (f_X12_run N σ x1 x2) (fun R => (σ.i 77 = 0 ∧ R.2 = σ.setI 0 0) ∨ (¬ σ.i 77 = 0 ∧ RUNP (σ.setI 0 0) R.2)) := by
  unfold f_X12_run
  refine ok_ite (fun c => ok_some (Or.inl ⟨c, rfl⟩)) (fun c => ?_)
  obtain ⟨g, hW⟩ := hW c
  have hW0 : WT (σ.setI 0 0) g := hW.of ⟨fun _ _ _ => rfl, rfl, rfl, rfl, rfl, Int.le_refl _⟩
  exact ok_imp (p_run17 hN hW0 (hB.i0 0) ⟨hR.1, hR.2.1, hR.2.2.1, hR.2.2.2⟩ x1 x2 N _ 0 ⟨rfl, rfl, rfl, fun _ _ _ => rfl⟩ (fun j hj => by rw [z_t0] at hj; omega) (by decide) (by decide) (by rw [z_t0]; omega)) (fun R h => Or.inr ⟨c, h⟩)
