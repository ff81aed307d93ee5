/-! reading: what is typed of a piece of code -/
theorem okJ_1 {s : RS} {g : Gh} {k : Nat} {c : Ctx} (hop : gv s 21 k = 1) (h : (let x := gv s 22 k; let y := gv s 23 k; let F := fun (z : Int) (h : Nat) => FL s g c.v ((k : Int) + 1) z h c.o c.rs; let n := fun (h : Nat) => FL s g c.v ((k : Int) + 1) ((k : Int) + 1) h c.o c.rs; let N := fun (h o : Nat) (rs : List Rec) => FL s g c.v ((k : Int) + 1) ((k : Int) + 1) h o rs; FS s g ((k : Int) + 1) c.h c.o c.rs)) : OKI s g k c := by
  unfold OKI
  rw [hop]
  exact h
theorem okJ_2 {s : RS} {g : Gh} {k : Nat} {c : Ctx} (hop : gv s 21 k = 2) (h : (let x := gv s 22 k; let y := gv s 23 k; let F := fun (z : Int) (h : Nat) => FL s g c.v ((k : Int) + 1) z h c.o c.rs; let n := fun (h : Nat) => FL s g c.v ((k : Int) + 1) ((k : Int) + 1) h c.o c.rs; let N := fun (h o : Nat) (rs : List Rec) => FL s g c.v ((k : Int) + 1) ((k : Int) + 1) h o rs; FP s g k c.v x (c.h + 1) c.o c.rs)) : OKI s g k c := by
  unfold OKI
  rw [hop]
  exact h
theorem okJ_3 {s : RS} {g : Gh} {k : Nat} {c : Ctx} (hop : gv s 21 k = 3) (h : (let x := gv s 22 k; let y := gv s 23 k; let F := fun (z : Int) (h : Nat) => FL s g c.v ((k : Int) + 1) z h c.o c.rs; let n := fun (h : Nat) => FL s g c.v ((k : Int) + 1) ((k : Int) + 1) h c.o c.rs; let N := fun (h o : Nat) (rs : List Rec) => FL s g c.v ((k : Int) + 1) ((k : Int) + 1) h o rs; slotOK x ∧ n (c.h + 1))) : OKI s g k c := by
  unfold OKI
  rw [hop]
  exact h
theorem okJ_4 {s : RS} {g : Gh} {k : Nat} {c : Ctx} (hop : gv s 21 k = 4) (h : (let x := gv s 22 k; let y := gv s 23 k; let F := fun (z : Int) (h : Nat) => FL s g c.v ((k : Int) + 1) z h c.o c.rs; let n := fun (h : Nat) => FL s g c.v ((k : Int) + 1) ((k : Int) + 1) h c.o c.rs; let N := fun (h o : Nat) (rs : List Rec) => FL s g c.v ((k : Int) + 1) ((k : Int) + 1) h o rs; slotOK x ∧ g.isC x.toNat = true ∧ n (c.h + 1))) : OKI s g k c := by
  unfold OKI
  rw [hop]
  exact h
theorem okJ_5 {s : RS} {g : Gh} {k : Nat} {c : Ctx} (hop : gv s 21 k = 5) (h : (let x := gv s 22 k; let y := gv s 23 k; let F := fun (z : Int) (h : Nat) => FL s g c.v ((k : Int) + 1) z h c.o c.rs; let n := fun (h : Nat) => FL s g c.v ((k : Int) + 1) ((k : Int) + 1) h c.o c.rs; let N := fun (h o : Nat) (rs : List Rec) => FL s g c.v ((k : Int) + 1) ((k : Int) + 1) h o rs; slotOK x ∧ g.isC x.toNat = false ∧ 1 ≤ c.h ∧ n (c.h - 1))) : OKI s g k c := by
  unfold OKI
  rw [hop]
  exact h
theorem okJ_6 {s : RS} {g : Gh} {k : Nat} {c : Ctx} (hop : gv s 21 k = 6) (h : (let x := gv s 22 k; let y := gv s 23 k; let F := fun (z : Int) (h : Nat) => FL s g c.v ((k : Int) + 1) z h c.o c.rs; let n := fun (h : Nat) => FL s g c.v ((k : Int) + 1) ((k : Int) + 1) h c.o c.rs; let N := fun (h o : Nat) (rs : List Rec) => FL s g c.v ((k : Int) + 1) ((k : Int) + 1) h o rs; slotOK x ∧ g.isC x.toNat = false ∧ n c.h)) : OKI s g k c := by
  unfold OKI
  rw [hop]
  exact h
theorem okJ_7 {s : RS} {g : Gh} {k : Nat} {c : Ctx} (hop : gv s 21 k = 7) (h : (let x := gv s 22 k; let y := gv s 23 k; let F := fun (z : Int) (h : Nat) => FL s g c.v ((k : Int) + 1) z h c.o c.rs; let n := fun (h : Nat) => FL s g c.v ((k : Int) + 1) ((k : Int) + 1) h c.o c.rs; let N := fun (h o : Nat) (rs : List Rec) => FL s g c.v ((k : Int) + 1) ((k : Int) + 1) h o rs; 1 ≤ c.h ∧ n c.h)) : OKI s g k c := by
  unfold OKI
  rw [hop]
  exact h
theorem okJ_8 {s : RS} {g : Gh} {k : Nat} {c : Ctx} (hop : gv s 21 k = 8) (h : (let x := gv s 22 k; let y := gv s 23 k; let F := fun (z : Int) (h : Nat) => FL s g c.v ((k : Int) + 1) z h c.o c.rs; let n := fun (h : Nat) => FL s g c.v ((k : Int) + 1) ((k : Int) + 1) h c.o c.rs; let N := fun (h o : Nat) (rs : List Rec) => FL s g c.v ((k : Int) + 1) ((k : Int) + 1) h o rs; 2 ≤ c.h ∧ n (c.h - 1))) : OKI s g k c := by
  unfold OKI
  rw [hop]
  exact h
theorem okJ_9 {s : RS} {g : Gh} {k : Nat} {c : Ctx} (hop : gv s 21 k = 9) (h : (let x := gv s 22 k; let y := gv s 23 k; let F := fun (z : Int) (h : Nat) => FL s g c.v ((k : Int) + 1) z h c.o c.rs; let n := fun (h : Nat) => FL s g c.v ((k : Int) + 1) ((k : Int) + 1) h c.o c.rs; let N := fun (h o : Nat) (rs : List Rec) => FL s g c.v ((k : Int) + 1) ((k : Int) + 1) h o rs; 2 ≤ c.h ∧ n (c.h - 1))) : OKI s g k c := by
  unfold OKI
  rw [hop]
  exact h
theorem okJ_10 {s : RS} {g : Gh} {k : Nat} {c : Ctx} (hop : gv s 21 k = 10) (h : (let x := gv s 22 k; let y := gv s 23 k; let F := fun (z : Int) (h : Nat) => FL s g c.v ((k : Int) + 1) z h c.o c.rs; let n := fun (h : Nat) => FL s g c.v ((k : Int) + 1) ((k : Int) + 1) h c.o c.rs; let N := fun (h o : Nat) (rs : List Rec) => FL s g c.v ((k : Int) + 1) ((k : Int) + 1) h o rs; 1 ≤ c.h ∧ n c.h)) : OKI s g k c := by
  unfold OKI
  rw [hop]
  exact h
theorem okJ_11 {s : RS} {g : Gh} {k : Nat} {c : Ctx} (hop : gv s 21 k = 11) (h : (let x := gv s 22 k; let y := gv s 23 k; let F := fun (z : Int) (h : Nat) => FL s g c.v ((k : Int) + 1) z h c.o c.rs; let n := fun (h : Nat) => FL s g c.v ((k : Int) + 1) ((k : Int) + 1) h c.o c.rs; let N := fun (h o : Nat) (rs : List Rec) => FL s g c.v ((k : Int) + 1) ((k : Int) + 1) h o rs; 1 ≤ c.h ∧ F x c.h ∧ n (c.h - 1))) : OKI s g k c := by
  unfold OKI
  rw [hop]
  exact h
theorem okJ_12 {s : RS} {g : Gh} {k : Nat} {c : Ctx} (hop : gv s 21 k = 12) (h : (let x := gv s 22 k; let y := gv s 23 k; let F := fun (z : Int) (h : Nat) => FL s g c.v ((k : Int) + 1) z h c.o c.rs; let n := fun (h : Nat) => FL s g c.v ((k : Int) + 1) ((k : Int) + 1) h c.o c.rs; let N := fun (h o : Nat) (rs : List Rec) => FL s g c.v ((k : Int) + 1) ((k : Int) + 1) h o rs; 1 ≤ c.h ∧ F x c.h ∧ n (c.h - 1))) : OKI s g k c := by
  unfold OKI
  rw [hop]
  exact h
theorem okJ_13 {s : RS} {g : Gh} {k : Nat} {c : Ctx} (hop : gv s 21 k = 13) (h : (let x := gv s 22 k; let y := gv s 23 k; let F := fun (z : Int) (h : Nat) => FL s g c.v ((k : Int) + 1) z h c.o c.rs; let n := fun (h : Nat) => FL s g c.v ((k : Int) + 1) ((k : Int) + 1) h c.o c.rs; let N := fun (h o : Nat) (rs : List Rec) => FL s g c.v ((k : Int) + 1) ((k : Int) + 1) h o rs; 1 ≤ c.h ∧ (c.one = false → F x (c.h - 1)) ∧ n (c.h - 1))) : OKI s g k c := by
  unfold OKI
  rw [hop]
  exact h
theorem okJ_14 {s : RS} {g : Gh} {k : Nat} {c : Ctx} (hop : gv s 21 k = 14) (h : (let x := gv s 22 k; let y := gv s 23 k; let F := fun (z : Int) (h : Nat) => FL s g c.v ((k : Int) + 1) z h c.o c.rs; let n := fun (h : Nat) => FL s g c.v ((k : Int) + 1) ((k : Int) + 1) h c.o c.rs; let N := fun (h o : Nat) (rs : List Rec) => FL s g c.v ((k : Int) + 1) ((k : Int) + 1) h o rs; 1 ≤ c.h ∧ F x (c.h - 1) ∧ (c.one = false → n (c.h - 1)))) : OKI s g k c := by
  unfold OKI
  rw [hop]
  exact h
theorem okJ_15 {s : RS} {g : Gh} {k : Nat} {c : Ctx} (hop : gv s 21 k = 15) (h : (let x := gv s 22 k; let y := gv s 23 k; let F := fun (z : Int) (h : Nat) => FL s g c.v ((k : Int) + 1) z h c.o c.rs; let n := fun (h : Nat) => FL s g c.v ((k : Int) + 1) ((k : Int) + 1) h c.o c.rs; let N := fun (h o : Nat) (rs : List Rec) => FL s g c.v ((k : Int) + 1) ((k : Int) + 1) h o rs; F x c.h)) : OKI s g k c := by
  unfold OKI
  rw [hop]
  exact h
theorem okJ_16 {s : RS} {g : Gh} {k : Nat} {c : Ctx} (hop : gv s 21 k = 16) (h : (let x := gv s 22 k; let y := gv s 23 k; let F := fun (z : Int) (h : Nat) => FL s g c.v ((k : Int) + 1) z h c.o c.rs; let n := fun (h : Nat) => FL s g c.v ((k : Int) + 1) ((k : Int) + 1) h c.o c.rs; let N := fun (h o : Nat) (rs : List Rec) => FL s g c.v ((k : Int) + 1) ((k : Int) + 1) h o rs; 1 ≤ c.h ∧ n (c.h - 1))) : OKI s g k c := by
  unfold OKI
  rw [hop]
  exact h
theorem okJ_17 {s : RS} {g : Gh} {k : Nat} {c : Ctx} (hop : gv s 21 k = 17) (h : (let x := gv s 22 k; let y := gv s 23 k; let F := fun (z : Int) (h : Nat) => FL s g c.v ((k : Int) + 1) z h c.o c.rs; let n := fun (h : Nat) => FL s g c.v ((k : Int) + 1) ((k : Int) + 1) h c.o c.rs; let N := fun (h o : Nat) (rs : List Rec) => FL s g c.v ((k : Int) + 1) ((k : Int) + 1) h o rs; 1 ≤ c.h)) : OKI s g k c := by
  unfold OKI
  rw [hop]
  exact h
theorem okJ_18 {s : RS} {g : Gh} {k : Nat} {c : Ctx} (hop : gv s 21 k = 18) (h : (let x := gv s 22 k; let y := gv s 23 k; let F := fun (z : Int) (h : Nat) => FL s g c.v ((k : Int) + 1) z h c.o c.rs; let n := fun (h : Nat) => FL s g c.v ((k : Int) + 1) ((k : Int) + 1) h c.o c.rs; let N := fun (h o : Nat) (rs : List Rec) => FL s g c.v ((k : Int) + 1) ((k : Int) + 1) h o rs; 1 ≤ c.h ∧ YOK y c.rs)) : OKI s g k c := by
  unfold OKI
  rw [hop]
  exact h
theorem okJ_19 {s : RS} {g : Gh} {k : Nat} {c : Ctx} (hop : gv s 21 k = 19) (h : (let x := gv s 22 k; let y := gv s 23 k; let F := fun (z : Int) (h : Nat) => FL s g c.v ((k : Int) + 1) z h c.o c.rs; let n := fun (h : Nat) => FL s g c.v ((k : Int) + 1) ((k : Int) + 1) h c.o c.rs; let N := fun (h o : Nat) (rs : List Rec) => FL s g c.v ((k : Int) + 1) ((k : Int) + 1) h o rs; 1 ≤ c.h ∧ x < (s.i 3).toInt)) : OKI s g k c := by
  unfold OKI
  rw [hop]
  exact h
theorem okJ_20 {s : RS} {g : Gh} {k : Nat} {c : Ctx} (hop : gv s 21 k = 20) (h : (let x := gv s 22 k; let y := gv s 23 k; let F := fun (z : Int) (h : Nat) => FL s g c.v ((k : Int) + 1) z h c.o c.rs; let n := fun (h : Nat) => FL s g c.v ((k : Int) + 1) ((k : Int) + 1) h c.o c.rs; let N := fun (h o : Nat) (rs : List Rec) => FL s g c.v ((k : Int) + 1) ((k : Int) + 1) h o rs; x < (s.i 3).toInt)) : OKI s g k c := by
  unfold OKI
  rw [hop]
  exact h
theorem okJ_21 {s : RS} {g : Gh} {k : Nat} {c : Ctx} (hop : gv s 21 k = 21) (h : (let x := gv s 22 k; let y := gv s 23 k; let F := fun (z : Int) (h : Nat) => FL s g c.v ((k : Int) + 1) z h c.o c.rs; let n := fun (h : Nat) => FL s g c.v ((k : Int) + 1) ((k : Int) + 1) h c.o c.rs; let N := fun (h o : Nat) (rs : List Rec) => FL s g c.v ((k : Int) + 1) ((k : Int) + 1) h o rs; slotOK x ∧ g.isC x.toNat = true)) : OKI s g k c := by
  unfold OKI
  rw [hop]
  exact h
theorem okJ_22 {s : RS} {g : Gh} {k : Nat} {c : Ctx} (hop : gv s 21 k = 22) (h : (let x := gv s 22 k; let y := gv s 23 k; let F := fun (z : Int) (h : Nat) => FL s g c.v ((k : Int) + 1) z h c.o c.rs; let n := fun (h : Nat) => FL s g c.v ((k : Int) + 1) ((k : Int) + 1) h c.o c.rs; let N := fun (h o : Nat) (rs : List Rec) => FL s g c.v ((k : Int) + 1) ((k : Int) + 1) h o rs; F x c.h ∧ n c.h)) : OKI s g k c := by
  unfold OKI
  rw [hop]
  exact h
theorem okJ_23 {s : RS} {g : Gh} {k : Nat} {c : Ctx} (hop : gv s 21 k = 23) (h : (let x := gv s 22 k; let y := gv s 23 k; let F := fun (z : Int) (h : Nat) => FL s g c.v ((k : Int) + 1) z h c.o c.rs; let n := fun (h : Nat) => FL s g c.v ((k : Int) + 1) ((k : Int) + 1) h c.o c.rs; let N := fun (h o : Nat) (rs : List Rec) => FL s g c.v ((k : Int) + 1) ((k : Int) + 1) h o rs; 1 ≤ x ∧ x ≤ c.h ∧ (wv c.rs : Int) + x ≤ 450 ∧ N (c.h - x.toNat) c.o ((2, 0, x.toNat, c.h - x.toNat, c.o, c.v, false, false) :: c.rs))) : OKI s g k c := by
  unfold OKI
  rw [hop]
  exact h
theorem okJ_24 {s : RS} {g : Gh} {k : Nat} {c : Ctx} (hop : gv s 21 k = 24) (h : (let x := gv s 22 k; let y := gv s 23 k; let F := fun (z : Int) (h : Nat) => FL s g c.v ((k : Int) + 1) z h c.o c.rs; let n := fun (h : Nat) => FL s g c.v ((k : Int) + 1) ((k : Int) + 1) h c.o c.rs; let N := fun (h o : Nat) (rs : List Rec) => FL s g c.v ((k : Int) + 1) ((k : Int) + 1) h o rs; slotOK y ∧ g.isC y.toNat = false ∧ F x c.h ∧ FS s g ((k : Int) + 1) c.h c.o c.rs ∧ ∃ (r : Rec) (rs : List Rec), c.rs = r :: rs ∧ r.k = 2)) : OKI s g k c := by
  unfold OKI
  rw [hop]
  exact h
theorem okJ_25 {s : RS} {g : Gh} {k : Nat} {c : Ctx} (hop : gv s 21 k = 25) (h : (let x := gv s 22 k; let y := gv s 23 k; let F := fun (z : Int) (h : Nat) => FL s g c.v ((k : Int) + 1) z h c.o c.rs; let n := fun (h : Nat) => FL s g c.v ((k : Int) + 1) ((k : Int) + 1) h c.o c.rs; let N := fun (h o : Nat) (rs : List Rec) => FL s g c.v ((k : Int) + 1) ((k : Int) + 1) h o rs; ∃ (r : Rec) (rs : List Rec), c.rs = r :: rs ∧ r.k = 2 ∧ N c.h c.o rs)) : OKI s g k c := by
  unfold OKI
  rw [hop]
  exact h
theorem okJ_26 {s : RS} {g : Gh} {k : Nat} {c : Ctx} (hop : gv s 21 k = 26) (h : (let x := gv s 22 k; let y := gv s 23 k; let F := fun (z : Int) (h : Nat) => FL s g c.v ((k : Int) + 1) z h c.o c.rs; let n := fun (h : Nat) => FL s g c.v ((k : Int) + 1) ((k : Int) + 1) h c.o c.rs; let N := fun (h o : Nat) (rs : List Rec) => FL s g c.v ((k : Int) + 1) ((k : Int) + 1) h o rs; 0 ≤ x ∧ x < 8 ∧ N c.h c.o ((1, x.toNat, 0, c.h, c.o, c.v, false, false) :: c.rs))) : OKI s g k c := by
  unfold OKI
  rw [hop]
  exact h
theorem okJ_27 {s : RS} {g : Gh} {k : Nat} {c : Ctx} (hop : gv s 21 k = 27) (h : (let x := gv s 22 k; let y := gv s 23 k; let F := fun (z : Int) (h : Nat) => FL s g c.v ((k : Int) + 1) z h c.o c.rs; let n := fun (h : Nat) => FL s g c.v ((k : Int) + 1) ((k : Int) + 1) h c.o c.rs; let N := fun (h o : Nat) (rs : List Rec) => FL s g c.v ((k : Int) + 1) ((k : Int) + 1) h o rs; ∃ (r : Rec) (rs : List Rec), c.rs = r :: rs ∧ r.k = 1 ∧ N c.h c.o rs)) : OKI s g k c := by
  unfold OKI
  rw [hop]
  exact h
theorem okJ_28 {s : RS} {g : Gh} {k : Nat} {c : Ctx} (hop : gv s 21 k = 28) (h : (let x := gv s 22 k; let y := gv s 23 k; let F := fun (z : Int) (h : Nat) => FL s g c.v ((k : Int) + 1) z h c.o c.rs; let n := fun (h : Nat) => FL s g c.v ((k : Int) + 1) ((k : Int) + 1) h c.o c.rs; let N := fun (h o : Nat) (rs : List Rec) => FL s g c.v ((k : Int) + 1) ((k : Int) + 1) h o rs; 1 ≤ c.h ∧ x < (s.i 24).toInt ∧ (∀ j : Nat, entryIn s j 500 x → F (gv s 26 j) (c.h - 1)) ∧ (¬ (∃ j : Nat, entryIn s j 500 x ∧ ¬ gv s 28 j = 0) → F y (c.h - 1)))) : OKI s g k c := by
  unfold OKI
  rw [hop]
  exact h
theorem okJ_29 {s : RS} {g : Gh} {k : Nat} {c : Ctx} (hop : gv s 21 k = 29) (h : (let x := gv s 22 k; let y := gv s 23 k; let F := fun (z : Int) (h : Nat) => FL s g c.v ((k : Int) + 1) z h c.o c.rs; let n := fun (h : Nat) => FL s g c.v ((k : Int) + 1) ((k : Int) + 1) h c.o c.rs; let N := fun (h o : Nat) (rs : List Rec) => FL s g c.v ((k : Int) + 1) ((k : Int) + 1) h o rs; 1 ≤ c.h ∧ x < (s.i 24).toInt ∧ (∀ j : Nat, entryIn s j 500 x → FL s g c.v ((k : Int) + 1) (gv s 26 j) (c.h - 1) c.o ((3, k, 0, c.h - 1, c.o, c.v, false, false) :: c.rs)) ∧ ∃ j : Nat, entryIn s j 500 x ∧ ¬ gv s 28 j = 0)) : OKI s g k c := by
  unfold OKI
  rw [hop]
  exact h
theorem okJ_30 {s : RS} {g : Gh} {k : Nat} {c : Ctx} (hop : gv s 21 k = 30) (h : (let x := gv s 22 k; let y := gv s 23 k; let F := fun (z : Int) (h : Nat) => FL s g c.v ((k : Int) + 1) z h c.o c.rs; let n := fun (h : Nat) => FL s g c.v ((k : Int) + 1) ((k : Int) + 1) h c.o c.rs; let N := fun (h o : Nat) (rs : List Rec) => FL s g c.v ((k : Int) + 1) ((k : Int) + 1) h o rs; ∃ (r : Rec) (rs : List Rec), c.rs = r :: rs ∧ r.k = 3 ∧ c.h = r.h + 1)) : OKI s g k c := by
  unfold OKI
  rw [hop]
  exact h
theorem okJ_31 {s : RS} {g : Gh} {k : Nat} {c : Ctx} (hop : gv s 21 k = 31) (h : (let x := gv s 22 k; let y := gv s 23 k; let F := fun (z : Int) (h : Nat) => FL s g c.v ((k : Int) + 1) z h c.o c.rs; let n := fun (h : Nat) => FL s g c.v ((k : Int) + 1) ((k : Int) + 1) h c.o c.rs; let N := fun (h o : Nat) (rs : List Rec) => FL s g c.v ((k : Int) + 1) ((k : Int) + 1) h o rs; 0 ≤ x ∧ x < (s.i 29).toInt ∧ ∃ ps ek : Bool, N c.h c.o ((4, x.toNat, 0, c.h, c.o, c.v, ps, ek) :: c.rs))) : OKI s g k c := by
  unfold OKI
  rw [hop]
  exact h
theorem okJ_32 {s : RS} {g : Gh} {k : Nat} {c : Ctx} (hop : gv s 21 k = 32) (h : (let x := gv s 22 k; let y := gv s 23 k; let F := fun (z : Int) (h : Nat) => FL s g c.v ((k : Int) + 1) z h c.o c.rs; let n := fun (h : Nat) => FL s g c.v ((k : Int) + 1) ((k : Int) + 1) h c.o c.rs; let N := fun (h o : Nat) (rs : List Rec) => FL s g c.v ((k : Int) + 1) ((k : Int) + 1) h o rs; 0 ≤ x ∧ x < 8 ∧ N c.h (c.o + 1) c.rs)) : OKI s g k c := by
  unfold OKI
  rw [hop]
  exact h
theorem okJ_33 {s : RS} {g : Gh} {k : Nat} {c : Ctx} (hop : gv s 21 k = 33) (h : (let x := gv s 22 k; let y := gv s 23 k; let F := fun (z : Int) (h : Nat) => FL s g c.v ((k : Int) + 1) z h c.o c.rs; let n := fun (h : Nat) => FL s g c.v ((k : Int) + 1) ((k : Int) + 1) h c.o c.rs; let N := fun (h o : Nat) (rs : List Rec) => FL s g c.v ((k : Int) + 1) ((k : Int) + 1) h o rs; ∃ (r : Rec) (rs : List Rec), c.rs = r :: rs ∧ r.k = 4 ∧ r.p = 0 ∧ c.h = r.h ∧ endT s g k c.v r rs)) : OKI s g k c := by
  unfold OKI
  rw [hop]
  exact h
theorem okJ_34 {s : RS} {g : Gh} {k : Nat} {c : Ctx} (hop : gv s 21 k = 34) (h : (let x := gv s 22 k; let y := gv s 23 k; let F := fun (z : Int) (h : Nat) => FL s g c.v ((k : Int) + 1) z h c.o c.rs; let n := fun (h : Nat) => FL s g c.v ((k : Int) + 1) ((k : Int) + 1) h c.o c.rs; let N := fun (h o : Nat) (rs : List Rec) => FL s g c.v ((k : Int) + 1) ((k : Int) + 1) h o rs; ∃ (r : Rec) (rs : List Rec), c.rs = r :: rs ∧ r.k = 4 ∧ r.p = 1 ∧ c.h = r.h ∧ endT s g k c.v r rs)) : OKI s g k c := by
  unfold OKI
  rw [hop]
  exact h
theorem okJ_35 {s : RS} {g : Gh} {k : Nat} {c : Ctx} (hop : gv s 21 k = 35) (h : (let x := gv s 22 k; let y := gv s 23 k; let F := fun (z : Int) (h : Nat) => FL s g c.v ((k : Int) + 1) z h c.o c.rs; let n := fun (h : Nat) => FL s g c.v ((k : Int) + 1) ((k : Int) + 1) h c.o c.rs; let N := fun (h o : Nat) (rs : List Rec) => FL s g c.v ((k : Int) + 1) ((k : Int) + 1) h o rs; ∃ (r : Rec) (rs : List Rec), c.rs = r :: rs ∧ r.k = 4 ∧ r.p = 2 ∧ c.h = r.h ∧ c.v = r.v ∧ r.ps = true ∧ (r.ek = true → N r.h r.o rs))) : OKI s g k c := by
  unfold OKI
  rw [hop]
  exact h
theorem okJ_36 {s : RS} {g : Gh} {k : Nat} {c : Ctx} (hop : gv s 21 k = 36) (h : (let x := gv s 22 k; let y := gv s 23 k; let F := fun (z : Int) (h : Nat) => FL s g c.v ((k : Int) + 1) z h c.o c.rs; let n := fun (h : Nat) => FL s g c.v ((k : Int) + 1) ((k : Int) + 1) h c.o c.rs; let N := fun (h o : Nat) (rs : List Rec) => FL s g c.v ((k : Int) + 1) ((k : Int) + 1) h o rs; 0 ≤ y ∧ JMP s g c.v ((k : Int) + 1) x y.toNat c.h c.o c.rs)) : OKI s g k c := by
  unfold OKI
  rw [hop]
  exact h
theorem FL.mono {f : RS} {g : Gh} {v v' : Nat} {kk kk' x : Int} {h o : Nat} {rs : List Rec} (hf : FL f g v kk x h o rs) (hv : v ≤ v') (hk : kk' ≤ kk) : FL f g v' kk' x h o rs := by
  obtain ⟨a1, a2, a3⟩ := hf
  refine ⟨a1, a2, fun hx => ?_⟩
  obtain ⟨c, d1, d2, d3, d4, d5, d6⟩ := a3 hx
  exact ⟨c, d1, d2, d3, d4, d5, by rcases d6 with d6 | d6; exact Or.inl (by omega); exact (by by_cases q : c.v < v'; exact Or.inl q; exact Or.inr ⟨by omega, by omega⟩)⟩
/-- fewer may be begun -/
theorem FL.mo {f : RS} {g : Gh} {v : Nat} {kk x : Int} {h o o' : Nat} {rs : List Rec} (hf : FL f g v kk x h o rs) (ho : o' ≤ o) : FL f g v kk x h o' rs := by
  obtain ⟨a1, a2, a3⟩ := hf
  refine ⟨a1, a2, fun hx => ?_⟩
  obtain ⟨c, d1, d2, d3, d4⟩ := a3 hx
  exact ⟨c, d1, d2, by omega, d4⟩
/-- forward, or to a lower level -/
theorem FL.to {f : RS} {g : Gh} {v v' : Nat} {kk x : Int} {h o : Nat} {rs : List Rec} (hf : FL f g v x x h o rs) (hv : v < v' ∨ v ≤ v' ∧ kk ≤ x) : FL f g v' kk x h o rs := by
  obtain ⟨a1, a2, a3⟩ := hf
  refine ⟨a1, a2, fun hx => ?_⟩
  obtain ⟨c, d1, d2, d3, d4, d5, d6⟩ := a3 hx
  exact ⟨c, d1, d2, d3, d4, d5, by rcases d6 with d6 | d6 <;> rcases hv with hv | hv <;> first | exact Or.inl (by omega) | exact Or.inr ⟨by omega, by omega⟩⟩
theorem FL.fs {f : RS} {g : Gh} {v : Nat} {kk x : Int} {h o : Nat} {rs : List Rec} (hf : FL f g v kk x h o rs) : FS f g x h o rs := by
  obtain ⟨a1, a2, a3⟩ := hf
  refine ⟨a1, a2, fun hx => ?_⟩
  obtain ⟨c, d1, d2, d3, d4, d5, d6⟩ := a3 hx
  exact ⟨c, d1, d2, d3, d4, d5⟩
theorem FL.fp {f : RS} {g : Gh} {k v : Nat} {y : Int} {h o : Nat} {rs : List Rec} (hf : FL f g v ((k : Int) + 1) ((k : Int) + 1) h o rs) : FP f g k v y h o rs := by
  obtain ⟨a1, a2, a3⟩ := hf
  refine ⟨a2, fun hx => ?_⟩
  obtain ⟨c, d1, d2, d3, d4, d5, d6⟩ := a3 hx
  exact ⟨c, d1, d2, d3, fun q => (by rw [d4] at q; cases q), d5, by omega⟩
theorem recOK.mono {f : RS} {g : Gh} {k k' v v' : Nat} {r : Rec} {rs : List Rec} (h : recOK f g k v r rs) (hk : k' ≤ k) (hv : v ≤ v') : recOK f g k' v' r rs := by
  obtain ⟨h1, h2, h3⟩ := h
  refine ⟨h1, h2, ?_⟩
  rcases h3 with h3 | h3 | ⟨a, b, c⟩ | ⟨a, b, c, d, e, p, q⟩
  · exact Or.inl h3
  · exact Or.inr (Or.inl h3)
  · exact Or.inr (Or.inr (Or.inl ⟨a, b, c.mono hv (by omega)⟩))
  · refine Or.inr (Or.inr (Or.inr ⟨a, b, c, by omega, by omega, fun hp j hj => ?_, fun hp hq => (q hp hq).mono hv (by omega)⟩))
    obtain ⟨w1, w2, w3, w4⟩ := p hp j hj
    exact ⟨w1, w2, w3, w4.mono hv (by omega)⟩
theorem recsOK.mono {f : RS} {g : Gh} {k k' v v' : Nat} (hk : k' ≤ k) (hv : v ≤ v') : ∀ {rs : List Rec}, recsOK f g k v rs → recsOK f g k' v' rs
  | [], _ => True.intro
  | _ :: _, h => ⟨h.1.mono hk hv, recsOK.mono hk hv h.2⟩
def GOOD (f : RS) (g : Gh) (k : Nat) (c : Ctx) : Prop := OKI f g k c ∧ recsOK f g k c.v c.rs ∧ c.h ≤ 1300 ∧ wv c.rs ≤ 450 ∧ oOK c.o c.rs ∧ c.o ≤ 450 ∧ c.rs.length ≤ 250 ∧ c.v ≤ 3000 ∧ (c.one = true → 1 ≤ c.h)
/-- from x on the code is as it should be, where E holds of what lies around -/
def COD (f : RS) (C : Nat → Bool) (x : Int) (h o v : Nat) (rs : List Rec) (E : Gh → Prop) : Prop := ∃ S : Nat → Ctx → Prop, ∀ g : Gh, g.isC = C → (∀ k c, S k c → g.T k c) → E g → FL f g v x x h o rs ∧ ∀ k c, S k c → GOOD f g k c
theorem COD.imp {f : RS} {C : Nat → Bool} {x : Int} {h o v : Nat} {rs : List Rec} {E E' : Gh → Prop} (hc : COD f C x h o v rs E) (hE : ∀ g : Gh, g.isC = C → E' g → E g) : COD f C x h o v rs E' := by
  obtain ⟨S, hS⟩ := hc
  exact ⟨S, fun g h1 h2 h3 => hS g h1 h2 (hE g h1 h3)⟩
theorem COD.seq {f : RS} {C : Nat → Bool} {x y : Int} {h o v h2 o2 v2 : Nat} {rs rs2 : List Rec} {E E1 E2 : Gh → Prop} (c1 : COD f C x h o v rs E1) (c2 : COD f C y h2 o2 v2 rs2 E2) (e2 : ∀ g : Gh, g.isC = C → E g → E2 g) (e1 : ∀ g : Gh, g.isC = C → E g → FL f g v2 y y h2 o2 rs2 → E1 g) : COD f C x h o v rs E := by
  obtain ⟨S1, a1⟩ := c1
  obtain ⟨S2, a2⟩ := c2
  refine ⟨fun k c => S1 k c ∨ S2 k c, fun g h1 h2 h3 => ?_⟩
  obtain ⟨b1, b2⟩ := a2 g h1 (fun k c q => h2 k c (Or.inr q)) (e2 g h1 h3)
  obtain ⟨d1, d2⟩ := a1 g h1 (fun k c q => h2 k c (Or.inl q)) (e1 g h1 h3 b1)
  exact ⟨d1, fun k c q => by rcases q with q | q; exact d2 k c q; exact b2 k c q⟩
/-- numbers of a context, by the bytes read -/
def CX (s : RS) (h o v : Nat) (rs : List Rec) : Prop := (rs.length : Int) = deI s ∧ (h : Int) ≤ fr s ∧ 2 * (o : Int) ≤ fr s ∧ (v : Int) ≤ fr s ∧ 2 * (wv rs : Int) ≤ fr s ∧ oOK o rs ∧ fr s ≤ 900 ∧ deI s ≤ 250
theorem CX.good {s f : RS} {g : Gh} {k h o v : Nat} {rs : List Rec} (hc : CX s h o v rs) {b : Bool} (hb : b = true → 1 ≤ h) (h1 : OKI f g k (h, o, v, b, rs)) (h2 : recsOK f g k v rs) : GOOD f g k (h, o, v, b, rs) := by
  obtain ⟨a1, a2, a3, a4, a5, a6, a7, a8⟩ := hc
  exact ⟨h1, h2, show h ≤ 1300 by omega, show wv rs ≤ 450 by omega, a6, show o ≤ 450 by omega, show rs.length ≤ 250 by omega, show v ≤ 3000 by omega, hb⟩
/-- one instruction -/
theorem COD.ins {s f : RS} {C : Nat → Bool} {k h o v : Nat} {rs : List Rec} {E : Gh → Prop} (hc : CX s h o v rs) (hk : (k : Int) < cdI f) (hE : ∀ g : Gh, g.isC = C → E g → OKI f g k (h, o, v, false, rs) ∧ recsOK f g k v rs) : COD f C k h o v rs E := by
  refine ⟨fun k' c => k' = k ∧ c = (h, o, v, false, rs), fun g h1 h2 h3 => ⟨⟨by omega, by omega, fun _ => ⟨(h, o, v, false, rs), h2 _ _ ⟨Int.toNat_natCast k, rfl⟩, rfl, Nat.le_refl _, rfl, rfl, Or.inr ⟨Nat.le_refl _, Int.le_refl _⟩⟩⟩, fun k' c q => ?_⟩⟩
  obtain ⟨rfl, rfl⟩ := q
  obtain ⟨p1, p2⟩ := hE g h1 h3
  exact hc.good (fun q => by cases q) p1 p2
/-- the same, and the first place is among them whatever lies around -/
def CODS (f : RS) (C : Nat → Bool) (x : Int) (h o v : Nat) (rs : List Rec) (E : Gh → Prop) : Prop := ∃ S : Nat → Ctx → Prop, (0 ≤ x ∧ x < cdI f ∧ ∃ c, S x.toNat c ∧ c.h = h ∧ o ≤ c.o ∧ c.one = false ∧ c.rs = rs ∧ c.v ≤ v) ∧ ∀ g : Gh, g.isC = C → (∀ k c, S k c → g.T k c) → E g → ∀ k c, S k c → GOOD f g k c
theorem CODS.cod {f : RS} {C : Nat → Bool} {x : Int} {h o v : Nat} {rs : List Rec} {E : Gh → Prop} (hc : CODS f C x h o v rs E) : COD f C x h o v rs E := by
  obtain ⟨S, ⟨h1, h2, c, c1, c2, c3, c4, c5, c6⟩, h4⟩ := hc
  exact ⟨S, fun g g1 g2 g3 => ⟨⟨h1, by omega, fun _ => ⟨c, g2 _ _ c1, c2, c3, c4, c5, Or.inr ⟨c6, Int.le_refl _⟩⟩⟩, h4 g g1 g2 g3⟩⟩
theorem CODS.imp {f : RS} {C : Nat → Bool} {x : Int} {h o v : Nat} {rs : List Rec} {E E' : Gh → Prop} (hc : CODS f C x h o v rs E) (hE : ∀ g : Gh, g.isC = C → E' g → E g) : CODS f C x h o v rs E' := by
  obtain ⟨S, h0, hS⟩ := hc
  exact ⟨S, h0, fun g h1 h2 h3 => hS g h1 h2 (hE g h1 h3)⟩
/-- a piece and another; the other may come back to the first place -/
theorem CODS.loop {f : RS} {C : Nat → Bool} {x y : Int} {h o v h2 o2 v2 : Nat} {rs rs2 : List Rec} {E E1 E2 : Gh → Prop} (c1 : CODS f C x h o v rs E1) (c2 : COD f C y h2 o2 v2 rs2 E2) (e2 : ∀ g : Gh, g.isC = C → E g → FL f g v x x h o rs → E2 g) (e1 : ∀ g : Gh, g.isC = C → E g → FL f g v x x h o rs → FL f g v2 y y h2 o2 rs2 → E1 g) : CODS f C x h o v rs E := by
  obtain ⟨S1, ⟨p1, p2, c, q1, q2, q3, q4, q5, q6⟩, a1⟩ := c1
  obtain ⟨S2, a2⟩ := c2
  refine ⟨fun k c => S1 k c ∨ S2 k c, ⟨p1, p2, c, Or.inl q1, q2, q3, q4, q5, q6⟩, fun g h1 h2 h3 => ?_⟩
  have hF : FL f g v x x h o rs := ⟨p1, by omega, fun _ => ⟨c, h2 _ _ (Or.inl q1), q2, q3, q4, q5, Or.inr ⟨q6, Int.le_refl _⟩⟩⟩
  obtain ⟨b1, b2⟩ := a2 g h1 (fun k c q => h2 k c (Or.inr q)) (e2 g h1 h3 hF)
  have d2 := a1 g h1 (fun k c q => h2 k c (Or.inl q)) (e1 g h1 h3 hF b1)
  exact fun k c q => by rcases q with q | q; exact d2 k c q; exact b2 k c q
theorem CODS.seq {f : RS} {C : Nat → Bool} {x y : Int} {h o v h2 o2 v2 : Nat} {rs rs2 : List Rec} {E E1 E2 : Gh → Prop} (c1 : CODS f C x h o v rs E1) (c2 : COD f C y h2 o2 v2 rs2 E2) (e2 : ∀ g : Gh, g.isC = C → E g → E2 g) (e1 : ∀ g : Gh, g.isC = C → E g → FL f g v2 y y h2 o2 rs2 → E1 g) : CODS f C x h o v rs E := c1.loop c2 (fun g h1 h2 _ => e2 g h1 h2) (fun g h1 h2 _ h3 => e1 g h1 h2 h3)
/-- nothing -/
theorem COD.nil {f : RS} {C : Nat → Bool} {x : Int} {h o v : Nat} {rs : List Rec} {E : Gh → Prop} (hE : ∀ g : Gh, g.isC = C → E g → FL f g v x x h o rs) : COD f C x h o v rs E := ⟨fun _ _ => False, fun g h1 _ h3 => ⟨hE g h1 h3, fun _ _ q => q.elim⟩⟩
theorem CODS.ins {s f : RS} {C : Nat → Bool} {k h o v : Nat} {rs : List Rec} {E : Gh → Prop} (hc : CX s h o v rs) (hk : (k : Int) < cdI f) (hE : ∀ g : Gh, g.isC = C → E g → OKI f g k (h, o, v, false, rs) ∧ recsOK f g k v rs) : CODS f C k h o v rs E := by
  refine ⟨fun k' c => k' = k ∧ c = (h, o, v, false, rs), ⟨by omega, hk, (h, o, v, false, rs), ⟨Int.toNat_natCast k, rfl⟩, rfl, Nat.le_refl _, rfl, rfl, Nat.le_refl _⟩, fun g h1 h2 h3 k' c q => ?_⟩
  obtain ⟨rfl, rfl⟩ := q
  obtain ⟨p1, p2⟩ := hE g h1 h3
  exact hc.good (fun q => by cases q) p1 p2
def OPN (s : RS) (k : Nat) : Prop := ∃ (γ : Nat) (b : Bool) (L : List Nat), (γ : Int) < goI s ∧ ISCH s (hd s b γ) L ∧ k ∈ L
/-- f is later than u: what lies between s and u stands there as in u, but for jumps that are still begun -/
def AG0 (s u f : RS) : Prop := cdI u ≤ cdI f ∧ enI u ≤ enI f ∧ trI u ≤ trI f ∧ (u.i 3).toInt ≤ (f.i 3).toInt ∧
  (∀ k : Nat, cdI s ≤ k → (k : Int) < cdI u → f.a 21 k = u.a 21 k ∧ f.a 23 k = u.a 23 k ∧ (¬ OPN u k → f.a 22 k = u.a 22 k)) ∧
  (∀ k : Nat, enI s ≤ k → (k : Int) < enI u → f.a 26 k = u.a 26 k ∧ f.a 27 k = u.a 27 k ∧ f.a 28 k = u.a 28 k) ∧
  (∀ k : Nat, trI s ≤ k → (k : Int) < trI u → f.a 30 k = u.a 30 k ∧ f.a 31 k = u.a 31 k ∧ f.a 32 k = u.a 32 k) ∧
  (∀ k : Nat, caI s ≤ k → (k : Int) < caI u → f.a 35 k = u.a 35 k ∧ f.a 36 k = u.a 36 k ∧ f.a 37 k = u.a 37 k)
def AGC (s u : RS) (C : Nat → Bool) : Prop := ∀ x : Nat, slI s ≤ x → (x : Int) < slI u → (C x = true ↔ ∃ j : Nat, caI s ≤ j ∧ (j : Int) < caI u ∧ gv u 36 j = x)
theorem AG0.comp {s s1 u1 u f : RS} (h1 : AG0 s1 u1 u) (h2 : AG0 s u f) (hc : cdI s ≤ cdI s1) (he : enI s ≤ enI s1) (ht : trI s ≤ trI s1) (hh : caI s ≤ caI s1) (hu : caI u1 ≤ caI u) (ho : ∀ k : Nat, cdI s1 ≤ k → (k : Int) < cdI u1 → OPN u k → OPN u1 k) : AG0 s1 u1 f := by
  obtain ⟨a1, a2, a3, a4, a5, a6, a7, a8⟩ := h1
  obtain ⟨b1, b2, b3, b4, b5, b6, b7, b8⟩ := h2
  refine ⟨by omega, by omega, by omega, by omega, fun k k1 k2 => ?_, fun k k1 k2 => ?_, fun k k1 k2 => ?_, fun k k1 k2 => ?_⟩
  · obtain ⟨c1, c2, c3⟩ := a5 k k1 k2
    obtain ⟨d1, d2, d3⟩ := b5 k (by omega) (by omega)
    exact ⟨d1.trans c1, d2.trans c2, fun q => (d3 (fun z => q (ho k k1 k2 z))).trans (c3 q)⟩
  · obtain ⟨c1, c2, c3⟩ := a6 k k1 k2
    obtain ⟨d1, d2, d3⟩ := b6 k (by omega) (by omega)
    exact ⟨d1.trans c1, d2.trans c2, d3.trans c3⟩
  · obtain ⟨c1, c2, c3⟩ := a7 k k1 k2
    obtain ⟨d1, d2, d3⟩ := b7 k (by omega) (by omega)
    exact ⟨d1.trans c1, d2.trans c2, d3.trans c3⟩
  · obtain ⟨c1, c2, c3⟩ := a8 k k1 k2
    obtain ⟨d1, d2, d3⟩ := b8 k (by omega) (by omega)
    exact ⟨d1.trans c1, d2.trans c2, d3.trans c3⟩
theorem AG0.kp {t : Nat} {s u1 u : RS} (h : KP t u1 u) : AG0 s u1 u := by
  obtain ⟨⟨a1, a1'⟩, a2, a3, a4, a5, a6, a7, a8, a9, a10, a11⟩ := h
  refine ⟨a2.1, a3.1, a4.1, by rw [a1.1 3 (by omega)]; exact Int.le_refl _, fun k _ k2 => ⟨a2.2.1 k k2, a2.2.2.2 k k2, fun _ => a2.2.2.1 k k2⟩, fun k _ k2 => ⟨a3.2.2.1 k k2, a3.2.2.2.1 k k2, a3.2.2.2.2 k k2⟩, fun k _ k2 => ⟨a4.2.1 k k2, a4.2.2.1 k k2, a4.2.2.2 k k2⟩, fun k _ k2 => ⟨a5.2.2.1 k k2, a5.2.2.2.1 k k2, a5.2.2.2.2.1 k k2⟩⟩
/-- chains are there, and lie in the code -/
def TN (s : RS) : Prop := ∀ (γ : Nat) (b : Bool), (γ : Int) < goI s → ∃ L, ISCH s (hd s b γ) L ∧ ∀ x ∈ L, (x : Int) < cdI s
theorem OPN.back {t : Nat} {u1 u : RS} (h : KP t u1 u) (hn : TN u1) (hg : goI u ≤ goI u1) {k : Nat} (hk : (k : Int) < cdI u1) (ho : OPN u k) : OPN u1 k := by
  obtain ⟨γ, b, L, h1, h2, h3⟩ := ho
  obtain ⟨M, m1, m2⟩ := hn γ b (by omega)
  obtain ⟨L1, c1, c2⟩ := h.2.2.2.2.2.2.2.1 γ b M (by omega) m1 m2
  have e := ISCH.uniq h2 c1
  rw [e] at h3
  rcases List.mem_append.mp h3 with h3 | h3
  · have := c2 k h3; omega
  · exact ⟨γ, b, M, by omega, m1, h3⟩
theorem AGC.mid {t : Nat} {s s1 u1 u : RS} {C : Nat → Bool} (h : AGC s u C) (k1 : KP t s s1) (k2 : KP t s1 u1) (hs : slI u1 ≤ slI u) (hc : caI u1 ≤ caI u) (h36 : ∀ j : Nat, (j : Int) < caI u1 → gv u 36 j = gv u1 36 j) (hl : ∀ j : Nat, caI u1 ≤ j → (j : Int) < caI u → slI u1 ≤ gv u 36 j) : AGC s1 u1 C := by
  have q1 := k1.2.2.2.2.1
  have q2 := k2.2.2.2.2.1
  have p1 := k1.2.2.2.2.2.1
  have p2 := k2.2.2.2.2.2.1
  intro x x1 x2
  have hx := h x (by have := p1.2.1; omega) (by omega)
  rw [hx]
  constructor
  · rintro ⟨j, j1, j2, j3⟩
    have hj2 : (j : Int) < caI u1 := by
      by_cases z : (j : Int) < caI u1
      · exact z
      · have := hl j (by omega) j2; omega
    have e := h36 j hj2
    have hj1 : caI s1 ≤ j := by
      by_cases z : (j : Int) < caI s1
      · have h9 := (q1.2.2.2.2.2 j j1 z).2
        have : gv u1 36 j = gv s1 36 j := by unfold gv; rw [q2.2.2.2.1 j z]
        omega
      · omega
    exact ⟨j, hj1, hj2, by omega⟩
  · rintro ⟨j, j1, j2, j3⟩
    exact ⟨j, by have := q1.1; omega, by omega, by rw [h36 j j2]; exact j3⟩
/-- what an expression or a statement finds around it -/
def ENB (s u f : RS) (g : Gh) (v : Nat) (rs : List Rec) : Prop := (∀ k : Nat, (k : Int) < cdI u → recsOK f g k v rs) ∧ (∀ x : Nat, (x : Int) < seI s → (g.isC (gv s 40 x).toNat = true ↔ ¬ s.a 41 x = 0))
/-- an expression's code: one value more -/
def TE (s u : RS) : Prop := ∀ (f : RS) (C : Nat → Bool), AG0 s u f → AGC s u C → ∀ (h o v : Nat) (rs : List Rec), CX s h o v rs → CODS f C (cdI s) h o v rs (fun g => ENB s u f g v rs ∧ FL f g v (cdI u) (cdI u) (h + 1) o rs)
