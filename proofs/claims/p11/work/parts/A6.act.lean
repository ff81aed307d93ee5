/-- what one instruction gives -/
def OUTA (s R : RS) (g : Gh) : Prop := (R.i 92).toInt < 0 ∨ cdI s ≤ (R.i 92).toInt ∨ ∃ c, 0 ≤ (R.i 92).toInt ∧ g.T (R.i 92).toInt.toNat c ∧ DY s R g c
def ACT (s σ R : RS) (g : Gh) (k v : Nat) : Prop := RX s R ∧ RB R ∧ RD R g ∧ ((R.i 80 = σ.i 80 ∧ OUT s R g v ((k : Int) + 1)) ∨ ((R.i 80).toInt = (σ.i 80).toInt + 1 ∧ OUTA s R g)) ∧ (R.i 115 = σ.i 115 ∨ ((R.i 92).toInt < 0 ∧ (R.i 115 = 3 → 0 ≤ (R.i 114).toInt ∧ (R.i 114).toInt < 3200)))
def ST (s R : RS) (g : Gh) (h o : Nat) (rs : List Rec) : Prop := (R.i 93).toInt = h ∧ (R.i 97).toInt = wv rs ∧ 0 ≤ (R.i 95).toInt ∧ (R.i 95).toInt ≤ o ∧ (R.i 99).toInt = rs.length ∧ RM s R g rs
def BS (s σ R : RS) (g : Gh) : Prop := RX s R ∧ RD R g ∧ R.i 80 = σ.i 80 ∧ R.i 115 = σ.i 115
theorem LO.act {s σ R : RS} {g : Gh} {k v : Nat} (h : LO s σ R g k v) : ACT s σ R g k v := ⟨h.1, h.2.1, h.2.2.1, Or.inl ⟨h.2.2.2.1, h.2.2.2.2.1⟩, h.2.2.2.2.2⟩
theorem out_FL {s R : RS} {g : Gh} {v : Nat} {kk x : Int} {h o : Nat} {rs : List Rec} (hf : FL s g v kk x h o rs) (hx : (R.i 92).toInt = x) (hs : ST s R g h o rs) : OUT s R g v kk := by
  obtain ⟨f1, f2, f3⟩ := hf
  obtain ⟨a1, a2, a3, a4, a5, a6⟩ := hs
  by_cases hc : x < cdI s
  · obtain ⟨c, d1, d2, d3, d4, d5, d6⟩ := f3 hc
    refine Or.inr (Or.inr ⟨c, by rw [hx]; exact f1, by rw [hx]; exact d1, ⟨by rw [d2]; exact a1, by rw [d5]; exact a2, a3, by omega, by rw [d5]; exact a5, by rw [d5]; exact a6, fun q => by rw [d4] at q; cases q⟩, by rw [hx]; exact d6⟩)
  · exact Or.inr (Or.inl (by rw [hx]; omega))
theorem out_FS {s R : RS} {g : Gh} {x : Int} {h o : Nat} {rs : List Rec} (hf : FS s g x h o rs) (hx : (R.i 92).toInt = x) (hs : ST s R g h o rs) : OUTA s R g := by
  obtain ⟨f1, f2, f3⟩ := hf
  obtain ⟨a1, a2, a3, a4, a5, a6⟩ := hs
  by_cases hc : x < cdI s
  · obtain ⟨c, d1, d2, d3, d4, d5⟩ := f3 hc
    exact Or.inr (Or.inr ⟨c, by rw [hx]; exact f1, by rw [hx]; exact d1, ⟨by rw [d2]; exact a1, by rw [d5]; exact a2, a3, by omega, by rw [d5]; exact a5, by rw [d5]; exact a6, fun q => by rw [d4] at q; cases q⟩⟩)
  · exact Or.inr (Or.inl (by rw [hx]; omega))
theorem act_FL {s σ R : RS} {g : Gh} {k v : Nat} {x : Int} {h o : Nat} {rs : List Rec} (hB : RB s) (hb : BS s σ R g) (hf : FL s g v ((k : Int) + 1) x h o rs) (hx : (R.i 92).toInt = x) (hs : ST s R g h o rs) : ACT s σ R g k v := ⟨hb.1, hb.1.B hB, hb.2.1, Or.inl ⟨hb.2.2.1, out_FL hf hx hs⟩, Or.inl hb.2.2.2⟩
theorem ST.of {s σ R : RS} {g : Gh} {h h' o : Nat} {rs : List Rec} (hs : ST s σ g h o rs) (e93 : (R.i 93).toInt = h') (e97 : R.i 97 = σ.i 97) (e95 : R.i 95 = σ.i 95) (e99 : R.i 99 = σ.i 99) (ea : ∀ k9 : Nat, 100 ≤ k9 → k9 ≤ 109 → R.a k9 = σ.a k9) : ST s R g h' o rs := by
  obtain ⟨a1, a2, a3, a4, a5, a6⟩ := hs
  exact ⟨e93, by rw [e97]; exact a2, by rw [e95]; exact a3, by rw [e95]; exact a4, by rw [e99]; exact a5, RM.of (σ := σ) (fun i _ k9 h1 h2 => gv_of (ea k9 h1 h2) i) a6⟩
theorem BS.of {s σ τ R : RS} {g : Gh} (hb : BS s σ τ g) (hX : RX τ R) (h95 : R.i 95 = τ.i 95) (h96 : R.a 96 = τ.a 96) (h84 : R.a 84 = τ.a 84) (h81 : R.i 81 = τ.i 81) (h85 : R.i 85 = τ.i 85) (h80 : R.i 80 = τ.i 80) (h88 : R.a 88 = τ.a 88) (h86 : R.a 86 = τ.a 86) (h115 : R.i 115 = τ.i 115) : BS s σ R g := ⟨hb.1.tr hX, RD.of hb.2.1 h95 h96 h84 h81 h85 h80 h88 h86 (hX.2.2.1 3 (by decide)), h80.trans hb.2.2.1, h115.trans hb.2.2.2⟩
/-- put: the numbers that matter stay -/
theorem BS.put {s σ τ R : RS} {g : Gh} (hb : BS s σ τ g) (hX : RX τ R) (hi : ∀ j : Nat, j ≠ 93 → R.i j = τ.i j) (ha : ∀ k : Nat, k ≠ 94 → R.a k = τ.a k) : BS s σ R g := hb.of hX (hi 95 (by decide)) (ha 96 (by decide)) (ha 84 (by decide)) (hi 81 (by decide)) (hi 85 (by decide)) (hi 80 (by decide)) (ha 88 (by decide)) (ha 86 (by decide)) (hi 115 (by decide))
theorem ST.put {s σ R : RS} {g : Gh} {h h' o : Nat} {rs : List Rec} (hs : ST s σ g h o rs) (e93 : (R.i 93).toInt = h') (hi : ∀ j : Nat, j ≠ 93 → R.i j = σ.i j) (ha : ∀ k : Nat, k ≠ 94 → R.a k = σ.a k) : ST s R g h' o rs := hs.of e93 (hi 97 (by decide)) (hi 95 (by decide)) (hi 99 (by decide)) (fun k9 h1 _ => ha k9 (by omega))
theorem okI_1 {s : RS} {g : Gh} {k : Nat} {c : Ctx} (h : OKI s g k c) (hop : gv s 21 k = 1) : (let x := gv s 22 k; let y := gv s 23 k; let F := fun (z : Int) (h : Nat) => FL s g c.v ((k : Int) + 1) z h c.o c.rs; let n := fun (h : Nat) => FL s g c.v ((k : Int) + 1) ((k : Int) + 1) h c.o c.rs; let N := fun (h o : Nat) (rs : List Rec) => FL s g c.v ((k : Int) + 1) ((k : Int) + 1) h o rs; FS s g ((k : Int) + 1) c.h c.o c.rs) := by
  unfold OKI at h
  rw [hop] at h
  exact h
theorem okI_2 {s : RS} {g : Gh} {k : Nat} {c : Ctx} (h : OKI s g k c) (hop : gv s 21 k = 2) : (let x := gv s 22 k; let y := gv s 23 k; let F := fun (z : Int) (h : Nat) => FL s g c.v ((k : Int) + 1) z h c.o c.rs; let n := fun (h : Nat) => FL s g c.v ((k : Int) + 1) ((k : Int) + 1) h c.o c.rs; let N := fun (h o : Nat) (rs : List Rec) => FL s g c.v ((k : Int) + 1) ((k : Int) + 1) h o rs; FP s g k c.v x (c.h + 1) c.o c.rs) := by
  unfold OKI at h
  rw [hop] at h
  exact h
theorem okI_3 {s : RS} {g : Gh} {k : Nat} {c : Ctx} (h : OKI s g k c) (hop : gv s 21 k = 3) : (let x := gv s 22 k; let y := gv s 23 k; let F := fun (z : Int) (h : Nat) => FL s g c.v ((k : Int) + 1) z h c.o c.rs; let n := fun (h : Nat) => FL s g c.v ((k : Int) + 1) ((k : Int) + 1) h c.o c.rs; let N := fun (h o : Nat) (rs : List Rec) => FL s g c.v ((k : Int) + 1) ((k : Int) + 1) h o rs; slotOK x ∧ n (c.h + 1)) := by
  unfold OKI at h
  rw [hop] at h
  exact h
theorem okI_4 {s : RS} {g : Gh} {k : Nat} {c : Ctx} (h : OKI s g k c) (hop : gv s 21 k = 4) : (let x := gv s 22 k; let y := gv s 23 k; let F := fun (z : Int) (h : Nat) => FL s g c.v ((k : Int) + 1) z h c.o c.rs; let n := fun (h : Nat) => FL s g c.v ((k : Int) + 1) ((k : Int) + 1) h c.o c.rs; let N := fun (h o : Nat) (rs : List Rec) => FL s g c.v ((k : Int) + 1) ((k : Int) + 1) h o rs; slotOK x ∧ g.isC x.toNat = true ∧ n (c.h + 1)) := by
  unfold OKI at h
  rw [hop] at h
  exact h
theorem okI_5 {s : RS} {g : Gh} {k : Nat} {c : Ctx} (h : OKI s g k c) (hop : gv s 21 k = 5) : (let x := gv s 22 k; let y := gv s 23 k; let F := fun (z : Int) (h : Nat) => FL s g c.v ((k : Int) + 1) z h c.o c.rs; let n := fun (h : Nat) => FL s g c.v ((k : Int) + 1) ((k : Int) + 1) h c.o c.rs; let N := fun (h o : Nat) (rs : List Rec) => FL s g c.v ((k : Int) + 1) ((k : Int) + 1) h o rs; slotOK x ∧ g.isC x.toNat = false ∧ 1 ≤ c.h ∧ n (c.h - 1)) := by
  unfold OKI at h
  rw [hop] at h
  exact h
theorem okI_6 {s : RS} {g : Gh} {k : Nat} {c : Ctx} (h : OKI s g k c) (hop : gv s 21 k = 6) : (let x := gv s 22 k; let y := gv s 23 k; let F := fun (z : Int) (h : Nat) => FL s g c.v ((k : Int) + 1) z h c.o c.rs; let n := fun (h : Nat) => FL s g c.v ((k : Int) + 1) ((k : Int) + 1) h c.o c.rs; let N := fun (h o : Nat) (rs : List Rec) => FL s g c.v ((k : Int) + 1) ((k : Int) + 1) h o rs; slotOK x ∧ g.isC x.toNat = false ∧ n c.h) := by
  unfold OKI at h
  rw [hop] at h
  exact h
theorem okI_7 {s : RS} {g : Gh} {k : Nat} {c : Ctx} (h : OKI s g k c) (hop : gv s 21 k = 7) : (let x := gv s 22 k; let y := gv s 23 k; let F := fun (z : Int) (h : Nat) => FL s g c.v ((k : Int) + 1) z h c.o c.rs; let n := fun (h : Nat) => FL s g c.v ((k : Int) + 1) ((k : Int) + 1) h c.o c.rs; let N := fun (h o : Nat) (rs : List Rec) => FL s g c.v ((k : Int) + 1) ((k : Int) + 1) h o rs; 1 ≤ c.h ∧ n c.h) := by
  unfold OKI at h
  rw [hop] at h
  exact h
theorem okI_8 {s : RS} {g : Gh} {k : Nat} {c : Ctx} (h : OKI s g k c) (hop : gv s 21 k = 8) : (let x := gv s 22 k; let y := gv s 23 k; let F := fun (z : Int) (h : Nat) => FL s g c.v ((k : Int) + 1) z h c.o c.rs; let n := fun (h : Nat) => FL s g c.v ((k : Int) + 1) ((k : Int) + 1) h c.o c.rs; let N := fun (h o : Nat) (rs : List Rec) => FL s g c.v ((k : Int) + 1) ((k : Int) + 1) h o rs; 2 ≤ c.h ∧ n (c.h - 1)) := by
  unfold OKI at h
  rw [hop] at h
  exact h
theorem okI_9 {s : RS} {g : Gh} {k : Nat} {c : Ctx} (h : OKI s g k c) (hop : gv s 21 k = 9) : (let x := gv s 22 k; let y := gv s 23 k; let F := fun (z : Int) (h : Nat) => FL s g c.v ((k : Int) + 1) z h c.o c.rs; let n := fun (h : Nat) => FL s g c.v ((k : Int) + 1) ((k : Int) + 1) h c.o c.rs; let N := fun (h o : Nat) (rs : List Rec) => FL s g c.v ((k : Int) + 1) ((k : Int) + 1) h o rs; 2 ≤ c.h ∧ n (c.h - 1)) := by
  unfold OKI at h
  rw [hop] at h
  exact h
theorem okI_10 {s : RS} {g : Gh} {k : Nat} {c : Ctx} (h : OKI s g k c) (hop : gv s 21 k = 10) : (let x := gv s 22 k; let y := gv s 23 k; let F := fun (z : Int) (h : Nat) => FL s g c.v ((k : Int) + 1) z h c.o c.rs; let n := fun (h : Nat) => FL s g c.v ((k : Int) + 1) ((k : Int) + 1) h c.o c.rs; let N := fun (h o : Nat) (rs : List Rec) => FL s g c.v ((k : Int) + 1) ((k : Int) + 1) h o rs; 1 ≤ c.h ∧ n c.h) := by
  unfold OKI at h
  rw [hop] at h
  exact h
theorem okI_11 {s : RS} {g : Gh} {k : Nat} {c : Ctx} (h : OKI s g k c) (hop : gv s 21 k = 11) : (let x := gv s 22 k; let y := gv s 23 k; let F := fun (z : Int) (h : Nat) => FL s g c.v ((k : Int) + 1) z h c.o c.rs; let n := fun (h : Nat) => FL s g c.v ((k : Int) + 1) ((k : Int) + 1) h c.o c.rs; let N := fun (h o : Nat) (rs : List Rec) => FL s g c.v ((k : Int) + 1) ((k : Int) + 1) h o rs; 1 ≤ c.h ∧ F x c.h ∧ n (c.h - 1)) := by
  unfold OKI at h
  rw [hop] at h
  exact h
theorem okI_12 {s : RS} {g : Gh} {k : Nat} {c : Ctx} (h : OKI s g k c) (hop : gv s 21 k = 12) : (let x := gv s 22 k; let y := gv s 23 k; let F := fun (z : Int) (h : Nat) => FL s g c.v ((k : Int) + 1) z h c.o c.rs; let n := fun (h : Nat) => FL s g c.v ((k : Int) + 1) ((k : Int) + 1) h c.o c.rs; let N := fun (h o : Nat) (rs : List Rec) => FL s g c.v ((k : Int) + 1) ((k : Int) + 1) h o rs; 1 ≤ c.h ∧ F x c.h ∧ n (c.h - 1)) := by
  unfold OKI at h
  rw [hop] at h
  exact h
theorem okI_13 {s : RS} {g : Gh} {k : Nat} {c : Ctx} (h : OKI s g k c) (hop : gv s 21 k = 13) : (let x := gv s 22 k; let y := gv s 23 k; let F := fun (z : Int) (h : Nat) => FL s g c.v ((k : Int) + 1) z h c.o c.rs; let n := fun (h : Nat) => FL s g c.v ((k : Int) + 1) ((k : Int) + 1) h c.o c.rs; let N := fun (h o : Nat) (rs : List Rec) => FL s g c.v ((k : Int) + 1) ((k : Int) + 1) h o rs; 1 ≤ c.h ∧ (c.one = false → F x (c.h - 1)) ∧ n (c.h - 1)) := by
  unfold OKI at h
  rw [hop] at h
  exact h
theorem okI_14 {s : RS} {g : Gh} {k : Nat} {c : Ctx} (h : OKI s g k c) (hop : gv s 21 k = 14) : (let x := gv s 22 k; let y := gv s 23 k; let F := fun (z : Int) (h : Nat) => FL s g c.v ((k : Int) + 1) z h c.o c.rs; let n := fun (h : Nat) => FL s g c.v ((k : Int) + 1) ((k : Int) + 1) h c.o c.rs; let N := fun (h o : Nat) (rs : List Rec) => FL s g c.v ((k : Int) + 1) ((k : Int) + 1) h o rs; 1 ≤ c.h ∧ F x (c.h - 1) ∧ (c.one = false → n (c.h - 1))) := by
  unfold OKI at h
  rw [hop] at h
  exact h
theorem okI_15 {s : RS} {g : Gh} {k : Nat} {c : Ctx} (h : OKI s g k c) (hop : gv s 21 k = 15) : (let x := gv s 22 k; let y := gv s 23 k; let F := fun (z : Int) (h : Nat) => FL s g c.v ((k : Int) + 1) z h c.o c.rs; let n := fun (h : Nat) => FL s g c.v ((k : Int) + 1) ((k : Int) + 1) h c.o c.rs; let N := fun (h o : Nat) (rs : List Rec) => FL s g c.v ((k : Int) + 1) ((k : Int) + 1) h o rs; F x c.h) := by
  unfold OKI at h
  rw [hop] at h
  exact h
theorem okI_16 {s : RS} {g : Gh} {k : Nat} {c : Ctx} (h : OKI s g k c) (hop : gv s 21 k = 16) : (let x := gv s 22 k; let y := gv s 23 k; let F := fun (z : Int) (h : Nat) => FL s g c.v ((k : Int) + 1) z h c.o c.rs; let n := fun (h : Nat) => FL s g c.v ((k : Int) + 1) ((k : Int) + 1) h c.o c.rs; let N := fun (h o : Nat) (rs : List Rec) => FL s g c.v ((k : Int) + 1) ((k : Int) + 1) h o rs; 1 ≤ c.h ∧ n (c.h - 1)) := by
  unfold OKI at h
  rw [hop] at h
  exact h
theorem okI_17 {s : RS} {g : Gh} {k : Nat} {c : Ctx} (h : OKI s g k c) (hop : gv s 21 k = 17) : (let x := gv s 22 k; let y := gv s 23 k; let F := fun (z : Int) (h : Nat) => FL s g c.v ((k : Int) + 1) z h c.o c.rs; let n := fun (h : Nat) => FL s g c.v ((k : Int) + 1) ((k : Int) + 1) h c.o c.rs; let N := fun (h o : Nat) (rs : List Rec) => FL s g c.v ((k : Int) + 1) ((k : Int) + 1) h o rs; 1 ≤ c.h) := by
  unfold OKI at h
  rw [hop] at h
  exact h
theorem okI_18 {s : RS} {g : Gh} {k : Nat} {c : Ctx} (h : OKI s g k c) (hop : gv s 21 k = 18) : (let x := gv s 22 k; let y := gv s 23 k; let F := fun (z : Int) (h : Nat) => FL s g c.v ((k : Int) + 1) z h c.o c.rs; let n := fun (h : Nat) => FL s g c.v ((k : Int) + 1) ((k : Int) + 1) h c.o c.rs; let N := fun (h o : Nat) (rs : List Rec) => FL s g c.v ((k : Int) + 1) ((k : Int) + 1) h o rs; 1 ≤ c.h ∧ YOK y c.rs) := by
  unfold OKI at h
  rw [hop] at h
  exact h
theorem okI_19 {s : RS} {g : Gh} {k : Nat} {c : Ctx} (h : OKI s g k c) (hop : gv s 21 k = 19) : (let x := gv s 22 k; let y := gv s 23 k; let F := fun (z : Int) (h : Nat) => FL s g c.v ((k : Int) + 1) z h c.o c.rs; let n := fun (h : Nat) => FL s g c.v ((k : Int) + 1) ((k : Int) + 1) h c.o c.rs; let N := fun (h o : Nat) (rs : List Rec) => FL s g c.v ((k : Int) + 1) ((k : Int) + 1) h o rs; 1 ≤ c.h ∧ x < (s.i 3).toInt) := by
  unfold OKI at h
  rw [hop] at h
  exact h
theorem okI_20 {s : RS} {g : Gh} {k : Nat} {c : Ctx} (h : OKI s g k c) (hop : gv s 21 k = 20) : (let x := gv s 22 k; let y := gv s 23 k; let F := fun (z : Int) (h : Nat) => FL s g c.v ((k : Int) + 1) z h c.o c.rs; let n := fun (h : Nat) => FL s g c.v ((k : Int) + 1) ((k : Int) + 1) h c.o c.rs; let N := fun (h o : Nat) (rs : List Rec) => FL s g c.v ((k : Int) + 1) ((k : Int) + 1) h o rs; x < (s.i 3).toInt) := by
  unfold OKI at h
  rw [hop] at h
  exact h
theorem okI_21 {s : RS} {g : Gh} {k : Nat} {c : Ctx} (h : OKI s g k c) (hop : gv s 21 k = 21) : (let x := gv s 22 k; let y := gv s 23 k; let F := fun (z : Int) (h : Nat) => FL s g c.v ((k : Int) + 1) z h c.o c.rs; let n := fun (h : Nat) => FL s g c.v ((k : Int) + 1) ((k : Int) + 1) h c.o c.rs; let N := fun (h o : Nat) (rs : List Rec) => FL s g c.v ((k : Int) + 1) ((k : Int) + 1) h o rs; slotOK x ∧ g.isC x.toNat = true) := by
  unfold OKI at h
  rw [hop] at h
  exact h
theorem okI_22 {s : RS} {g : Gh} {k : Nat} {c : Ctx} (h : OKI s g k c) (hop : gv s 21 k = 22) : (let x := gv s 22 k; let y := gv s 23 k; let F := fun (z : Int) (h : Nat) => FL s g c.v ((k : Int) + 1) z h c.o c.rs; let n := fun (h : Nat) => FL s g c.v ((k : Int) + 1) ((k : Int) + 1) h c.o c.rs; let N := fun (h o : Nat) (rs : List Rec) => FL s g c.v ((k : Int) + 1) ((k : Int) + 1) h o rs; F x c.h ∧ n c.h) := by
  unfold OKI at h
  rw [hop] at h
  exact h
theorem okI_23 {s : RS} {g : Gh} {k : Nat} {c : Ctx} (h : OKI s g k c) (hop : gv s 21 k = 23) : (let x := gv s 22 k; let y := gv s 23 k; let F := fun (z : Int) (h : Nat) => FL s g c.v ((k : Int) + 1) z h c.o c.rs; let n := fun (h : Nat) => FL s g c.v ((k : Int) + 1) ((k : Int) + 1) h c.o c.rs; let N := fun (h o : Nat) (rs : List Rec) => FL s g c.v ((k : Int) + 1) ((k : Int) + 1) h o rs; 1 ≤ x ∧ x ≤ c.h ∧ (wv c.rs : Int) + x ≤ 450 ∧ N (c.h - x.toNat) c.o ((2, 0, x.toNat, c.h - x.toNat, c.o, c.v, false, false) :: c.rs)) := by
  unfold OKI at h
  rw [hop] at h
  exact h
theorem okI_24 {s : RS} {g : Gh} {k : Nat} {c : Ctx} (h : OKI s g k c) (hop : gv s 21 k = 24) : (let x := gv s 22 k; let y := gv s 23 k; let F := fun (z : Int) (h : Nat) => FL s g c.v ((k : Int) + 1) z h c.o c.rs; let n := fun (h : Nat) => FL s g c.v ((k : Int) + 1) ((k : Int) + 1) h c.o c.rs; let N := fun (h o : Nat) (rs : List Rec) => FL s g c.v ((k : Int) + 1) ((k : Int) + 1) h o rs; slotOK y ∧ g.isC y.toNat = false ∧ F x c.h ∧ FS s g ((k : Int) + 1) c.h c.o c.rs ∧ ∃ (r : Rec) (rs : List Rec), c.rs = r :: rs ∧ r.k = 2) := by
  unfold OKI at h
  rw [hop] at h
  exact h
theorem okI_25 {s : RS} {g : Gh} {k : Nat} {c : Ctx} (h : OKI s g k c) (hop : gv s 21 k = 25) : (let x := gv s 22 k; let y := gv s 23 k; let F := fun (z : Int) (h : Nat) => FL s g c.v ((k : Int) + 1) z h c.o c.rs; let n := fun (h : Nat) => FL s g c.v ((k : Int) + 1) ((k : Int) + 1) h c.o c.rs; let N := fun (h o : Nat) (rs : List Rec) => FL s g c.v ((k : Int) + 1) ((k : Int) + 1) h o rs; ∃ (r : Rec) (rs : List Rec), c.rs = r :: rs ∧ r.k = 2 ∧ N c.h c.o rs) := by
  unfold OKI at h
  rw [hop] at h
  exact h
theorem okI_26 {s : RS} {g : Gh} {k : Nat} {c : Ctx} (h : OKI s g k c) (hop : gv s 21 k = 26) : (let x := gv s 22 k; let y := gv s 23 k; let F := fun (z : Int) (h : Nat) => FL s g c.v ((k : Int) + 1) z h c.o c.rs; let n := fun (h : Nat) => FL s g c.v ((k : Int) + 1) ((k : Int) + 1) h c.o c.rs; let N := fun (h o : Nat) (rs : List Rec) => FL s g c.v ((k : Int) + 1) ((k : Int) + 1) h o rs; 0 ≤ x ∧ x < 8 ∧ N c.h c.o ((1, x.toNat, 0, c.h, c.o, c.v, false, false) :: c.rs)) := by
  unfold OKI at h
  rw [hop] at h
  exact h
theorem okI_27 {s : RS} {g : Gh} {k : Nat} {c : Ctx} (h : OKI s g k c) (hop : gv s 21 k = 27) : (let x := gv s 22 k; let y := gv s 23 k; let F := fun (z : Int) (h : Nat) => FL s g c.v ((k : Int) + 1) z h c.o c.rs; let n := fun (h : Nat) => FL s g c.v ((k : Int) + 1) ((k : Int) + 1) h c.o c.rs; let N := fun (h o : Nat) (rs : List Rec) => FL s g c.v ((k : Int) + 1) ((k : Int) + 1) h o rs; ∃ (r : Rec) (rs : List Rec), c.rs = r :: rs ∧ r.k = 1 ∧ N c.h c.o rs) := by
  unfold OKI at h
  rw [hop] at h
  exact h
theorem okI_28 {s : RS} {g : Gh} {k : Nat} {c : Ctx} (h : OKI s g k c) (hop : gv s 21 k = 28) : (let x := gv s 22 k; let y := gv s 23 k; let F := fun (z : Int) (h : Nat) => FL s g c.v ((k : Int) + 1) z h c.o c.rs; let n := fun (h : Nat) => FL s g c.v ((k : Int) + 1) ((k : Int) + 1) h c.o c.rs; let N := fun (h o : Nat) (rs : List Rec) => FL s g c.v ((k : Int) + 1) ((k : Int) + 1) h o rs; 1 ≤ c.h ∧ x < (s.i 24).toInt ∧ (∀ j : Nat, entryIn s j 500 x → F (gv s 26 j) (c.h - 1)) ∧ (¬ (∃ j : Nat, entryIn s j 500 x ∧ ¬ gv s 28 j = 0) → F y (c.h - 1))) := by
  unfold OKI at h
  rw [hop] at h
  exact h
theorem okI_29 {s : RS} {g : Gh} {k : Nat} {c : Ctx} (h : OKI s g k c) (hop : gv s 21 k = 29) : (let x := gv s 22 k; let y := gv s 23 k; let F := fun (z : Int) (h : Nat) => FL s g c.v ((k : Int) + 1) z h c.o c.rs; let n := fun (h : Nat) => FL s g c.v ((k : Int) + 1) ((k : Int) + 1) h c.o c.rs; let N := fun (h o : Nat) (rs : List Rec) => FL s g c.v ((k : Int) + 1) ((k : Int) + 1) h o rs; 1 ≤ c.h ∧ x < (s.i 24).toInt ∧ (∀ j : Nat, entryIn s j 500 x → FL s g c.v ((k : Int) + 1) (gv s 26 j) (c.h - 1) c.o ((3, k, 0, c.h - 1, c.o, c.v, false, false) :: c.rs)) ∧ ∃ j : Nat, entryIn s j 500 x ∧ ¬ gv s 28 j = 0) := by
  unfold OKI at h
  rw [hop] at h
  exact h
theorem okI_30 {s : RS} {g : Gh} {k : Nat} {c : Ctx} (h : OKI s g k c) (hop : gv s 21 k = 30) : (let x := gv s 22 k; let y := gv s 23 k; let F := fun (z : Int) (h : Nat) => FL s g c.v ((k : Int) + 1) z h c.o c.rs; let n := fun (h : Nat) => FL s g c.v ((k : Int) + 1) ((k : Int) + 1) h c.o c.rs; let N := fun (h o : Nat) (rs : List Rec) => FL s g c.v ((k : Int) + 1) ((k : Int) + 1) h o rs; ∃ (r : Rec) (rs : List Rec), c.rs = r :: rs ∧ r.k = 3 ∧ c.h = r.h + 1) := by
  unfold OKI at h
  rw [hop] at h
  exact h
theorem okI_31 {s : RS} {g : Gh} {k : Nat} {c : Ctx} (h : OKI s g k c) (hop : gv s 21 k = 31) : (let x := gv s 22 k; let y := gv s 23 k; let F := fun (z : Int) (h : Nat) => FL s g c.v ((k : Int) + 1) z h c.o c.rs; let n := fun (h : Nat) => FL s g c.v ((k : Int) + 1) ((k : Int) + 1) h c.o c.rs; let N := fun (h o : Nat) (rs : List Rec) => FL s g c.v ((k : Int) + 1) ((k : Int) + 1) h o rs; 0 ≤ x ∧ x < (s.i 29).toInt ∧ ∃ ps ek : Bool, N c.h c.o ((4, x.toNat, 0, c.h, c.o, c.v, ps, ek) :: c.rs)) := by
  unfold OKI at h
  rw [hop] at h
  exact h
theorem okI_32 {s : RS} {g : Gh} {k : Nat} {c : Ctx} (h : OKI s g k c) (hop : gv s 21 k = 32) : (let x := gv s 22 k; let y := gv s 23 k; let F := fun (z : Int) (h : Nat) => FL s g c.v ((k : Int) + 1) z h c.o c.rs; let n := fun (h : Nat) => FL s g c.v ((k : Int) + 1) ((k : Int) + 1) h c.o c.rs; let N := fun (h o : Nat) (rs : List Rec) => FL s g c.v ((k : Int) + 1) ((k : Int) + 1) h o rs; 0 ≤ x ∧ x < 8 ∧ N c.h (c.o + 1) c.rs) := by
  unfold OKI at h
  rw [hop] at h
  exact h
theorem okI_33 {s : RS} {g : Gh} {k : Nat} {c : Ctx} (h : OKI s g k c) (hop : gv s 21 k = 33) : (let x := gv s 22 k; let y := gv s 23 k; let F := fun (z : Int) (h : Nat) => FL s g c.v ((k : Int) + 1) z h c.o c.rs; let n := fun (h : Nat) => FL s g c.v ((k : Int) + 1) ((k : Int) + 1) h c.o c.rs; let N := fun (h o : Nat) (rs : List Rec) => FL s g c.v ((k : Int) + 1) ((k : Int) + 1) h o rs; ∃ (r : Rec) (rs : List Rec), c.rs = r :: rs ∧ r.k = 4 ∧ r.p = 0 ∧ c.h = r.h ∧ endT s g k c.v r rs) := by
  unfold OKI at h
  rw [hop] at h
  exact h
theorem okI_34 {s : RS} {g : Gh} {k : Nat} {c : Ctx} (h : OKI s g k c) (hop : gv s 21 k = 34) : (let x := gv s 22 k; let y := gv s 23 k; let F := fun (z : Int) (h : Nat) => FL s g c.v ((k : Int) + 1) z h c.o c.rs; let n := fun (h : Nat) => FL s g c.v ((k : Int) + 1) ((k : Int) + 1) h c.o c.rs; let N := fun (h o : Nat) (rs : List Rec) => FL s g c.v ((k : Int) + 1) ((k : Int) + 1) h o rs; ∃ (r : Rec) (rs : List Rec), c.rs = r :: rs ∧ r.k = 4 ∧ r.p = 1 ∧ c.h = r.h ∧ endT s g k c.v r rs) := by
  unfold OKI at h
  rw [hop] at h
  exact h
theorem okI_35 {s : RS} {g : Gh} {k : Nat} {c : Ctx} (h : OKI s g k c) (hop : gv s 21 k = 35) : (let x := gv s 22 k; let y := gv s 23 k; let F := fun (z : Int) (h : Nat) => FL s g c.v ((k : Int) + 1) z h c.o c.rs; let n := fun (h : Nat) => FL s g c.v ((k : Int) + 1) ((k : Int) + 1) h c.o c.rs; let N := fun (h o : Nat) (rs : List Rec) => FL s g c.v ((k : Int) + 1) ((k : Int) + 1) h o rs; ∃ (r : Rec) (rs : List Rec), c.rs = r :: rs ∧ r.k = 4 ∧ r.p = 2 ∧ c.h = r.h ∧ c.v = r.v ∧ r.ps = true ∧ (r.ek = true → N r.h r.o rs)) := by
  unfold OKI at h
  rw [hop] at h
  exact h
theorem okI_36 {s : RS} {g : Gh} {k : Nat} {c : Ctx} (h : OKI s g k c) (hop : gv s 21 k = 36) : (let x := gv s 22 k; let y := gv s 23 k; let F := fun (z : Int) (h : Nat) => FL s g c.v ((k : Int) + 1) z h c.o c.rs; let n := fun (h : Nat) => FL s g c.v ((k : Int) + 1) ((k : Int) + 1) h c.o c.rs; let N := fun (h o : Nat) (rs : List Rec) => FL s g c.v ((k : Int) + 1) ((k : Int) + 1) h o rs; 0 ≤ y ∧ JMP s g c.v ((k : Int) + 1) x y.toNat c.h c.o c.rs) := by
  unfold OKI at h
  rw [hop] at h
  exact h
