/-! reading: try: its typing -/
/-- the record of a try -/
def TYR (id h o v p : Nat) (ps ek : Bool) : Rec := (4, id, p, h, o, v, ps, ek)
/-- where the end of a body or a catch goes -/
def ENDC (f : RS) (g : Gh) (id h o v : Nat) (rs : List Rec) (ps ek : Bool) : Prop := (0 ≤ gv f 31 id → ps = true → ek = true) ∧ (¬ 0 ≤ gv f 31 id → FL f g v (gv f 32 id) (gv f 32 id) h o rs)
/-- what a jump's place finds inside a try -/
def JET (w f : RS) (g : Gh) (γ : Nat) (b : Bool) (k id h o v : Nat) (rs : List Rec) (ps ek : Bool) : Prop := ∃ vt : Nat, (vt < v ∨ vt ≤ v ∧ cdI w ≤ gv f 22 k) ∧ lvA f (gv w 47 γ).toNat h vt (gv f 22 k) (TYR id h o v 0 ps ek :: rs) ∧ (ARV w γ b → arr f g (gv w 47 γ).toNat (TYR id h o v 0 ps ek :: rs) → TGT f g vt (gv f 22 k) (gv w 47 γ).toNat h o rs)
def EJT (s w f : RS) (g : Gh) (id h o v : Nat) (rs : List Rec) (ps ek : Bool) : Prop := ∀ (γ : Nat) (b : Bool) (k : Nat), ACC w γ → (b = true ∨ w.a 44 γ = 0) → SITE s w γ b k → JET w f g γ b k id h o v rs ps ek
theorem TGT.tr {f : RS} {g : Gh} {vt d h o o' : Nat} {x : Int} {rs : List Rec} {r : Rec} (ht : TGT f g vt x d h o rs) (hd : d ≤ rs.length) (ho : r.o = o) : TGT f g vt x d h o' (r :: rs) := by
  obtain ⟨h1, h2, h3⟩ := ht
  refine ⟨h1, h2, fun q => ?_⟩
  obtain ⟨c, d1, d2, d3, d4, d5, d6⟩ := h3 q
  have e1 : oA d o' (r :: rs) = oA d o rs := by
    show (if rs.length + 1 ≤ d then o' else oA d r.o rs) = _
    rw [if_neg (by omega), ho]
  have e2 : dA d (r :: rs) = dA d rs := by
    show (if rs.length + 1 ≤ d then r :: rs else dA d rs) = _
    rw [if_neg (by omega)]
  exact ⟨c, d1, d2, by rw [e1]; exact d3, d4, by rw [e2]; exact d5, d6⟩
theorem EJT.ej {s s1 v w f : RS} {g : Gh} {id h o o' lv p : Nat} {rs : List Rec} {ps ek : Bool} (hE : EJT s w f g id h o lv rs ps ek) (hg : STG v w) (hn : TN v) (hs : cdI s ≤ cdI s1) (hgo : goI w = goI v) (hp : p < 2) (hd : ∀ γ : Nat, (γ : Int) < goI w → (gv w 47 γ).toNat ≤ rs.length) : EJ s1 v f g h o' lv (TYR id h o lv p ps ek :: rs) := by
  intro γ b k a1 a2 a3
  have q := hg.2.2.1
  have hγ : (γ : Int) < goI w := by have := a1.1; omega
  have e47 : gv w 47 γ = gv v 47 γ := by unfold gv; rw [(q γ hγ).2.1]
  have acc : ACC w γ := ⟨hγ, by rw [(q γ hγ).1]; exact a1.2.1, fun δ d1 d2 => by rw [(q δ d2).1]; exact a1.2.2 δ d1 (by omega)⟩
  have st : SITE s w γ b k := by
    have := a3.stg hg hn hγ
    exact ⟨by have := this.1; omega, this.2⟩
  have hd' := hd γ hγ
  obtain ⟨vt, j1, j2, j3⟩ := hE γ b k acc (by rw [(q γ hγ).1]; exact a2) st
  rw [e47] at j2 j3 hd'
  refine ⟨vt, ?_, j2, fun z y => ?_⟩
  · have := hg.1
    rcases j1 with j1 | j1
    · exact Or.inl j1
    · exact Or.inr ⟨j1.1, by omega⟩
  · refine (j3 (z.stg hg hγ) ?_).tr hd' rfl
    rcases y with y | y
    · exact Or.inl y
    · exact Or.inr ⟨fun q1 _ q3 => y.1 q1 hp q3, y.2⟩
/-- what is not whole yet while a try is read: its row, the links of its catches -/
def ZT (id : Nat) (CL : List Nat) : Nat → Nat → Prop := fun a k => a = 30 ∧ k = id ∨ a = 37 ∧ k ∈ CL
/-- body and catches laid so far; X is where the code behind TRIES begins, e the end of the body, ρ says whether an end is reached -/
def TRX (CL : List Nat) (id : Nat) (x e : Int) (ρ : Prop) (s w : RS) : Prop := ∀ (f : RS) (C : Nat → Bool), AGZ (ZT id CL) s w f → AGC s w C → ∀ (h o v : Nat) (rs : List Rec) (ps ek : Bool), CX s h o v rs → YE s rs → ∃ S0 S1 : Nat → Ctx → Prop, ∀ g : Gh, g.isC = C → (∀ k c, S0 k c → g.T k c) → (∀ k c, S1 k c → g.T k c) → (∀ k : Nat, (k : Int) < cdI w → recsOK f g k v (TYR id h o v 1 ps ek :: rs)) → (∀ y : Nat, (y : Int) < seI s → (g.isC (gv s 40 y).toNat = true ↔ ¬ s.a 41 y = 0)) → (ρ → ENDC f g id h o v rs ps ek ∧ cdI w ≤ gv f 32 id) → EJT s w f g id h o v rs ps ek → ((∀ j ∈ CL, FL f g v (gv w 35 j) (gv w 35 j) h o (TYR id h o v 1 ps ek :: rs)) ∧ ∀ k c, S1 k c → GOOD f g k c) ∧ ((∀ k : Nat, (k : Int) < e → recsOK f g k v (TYR id h o v 0 ps ek :: rs)) → FL f g v x x h o (TYR id h o v 0 ps ek :: rs) ∧ ∀ k c, S0 k c → GOOD f g k c)
theorem wv_tr {id h o v p : Nat} {ps ek : Bool} {rs : List Rec} : wv (TYR id h o v p ps ek :: rs) = wv rs := by
  unfold wv
  rw [if_neg (show ¬ Rec.k (TYR id h o v p ps ek) = 2 by show ¬ (4 : Nat) = 2; decide), Nat.zero_add]
  cases rs <;> rfl
theorem CX.tr {s B : RS} {h o o' v id p : Nat} {ps ek : Bool} {rs : List Rec} (hx : CX s h o v rs) (hd : deI B = deI s + 1) (hf : fr s ≤ fr B) (f9 : fr B ≤ 900) (d9 : deI B ≤ 250) (ho : 2 * (o' : Int) ≤ fr B) (hp : p = 0 ∨ o' = o) : CX B h o' v (TYR id h o v p ps ek :: rs) := by
  obtain ⟨c1, c2, c3, c4, c5, c6, c7, c8⟩ := hx
  refine ⟨by show ((rs.length + 1 : Nat) : Int) = deI B; omega, by omega, ho, by omega, by rw [wv_tr]; omega, ⟨?_, c6⟩, f9, d9⟩
  rcases hp with hp | hp
  · exact Or.inl ⟨rfl, hp⟩
  · exact Or.inr hp
theorem YE.tr {s B : RS} {rs : List Rec} {r : Rec} (h : YE s rs) (hg : goI B = goI s) (h44 : bel 44 (goI s) s B) (h47 : bel 47 (goI s) s B) (hd : ∀ γ : Nat, (γ : Int) < goI s → gv s 47 γ ≤ (rs.length : Int)) : YE B (r :: rs) := by
  intro γ a1 a2 a3
  have a1' : (γ : Int) < goI s := by omega
  have hq := h γ a1' (by rw [← h44 γ a1']; exact a2) (fun δ d1 d2 => by rw [← h44 δ d2]; exact a3 δ d1 (by omega))
  have e : gv B 47 γ = gv s 47 γ := by unfold gv; rw [h47 γ a1']
  rw [e]
  obtain ⟨y1, r', q, y2, y3, y4⟩ := hq
  have := hd γ a1'
  refine ⟨y1, r', q, ?_, y3, y4⟩
  show (if rs.length + 1 ≤ (gv s 47 γ).toNat then r :: rs else dA (gv s 47 γ).toNat rs) = r' :: q
  rw [if_neg (by omega)]
  exact y2
/-- n resources are opened -/
def OPS : Nat → RS → Int → Prop
  | 0, _, _ => True
  | n+1, f, x => gv f 21 x.toNat = 32 ∧ (0 ≤ gv f 22 x.toNat ∧ gv f 22 x.toNat < 8) ∧ OPS n f (x + 1)
theorem COD.ops {s f : RS} {C : Nat → Bool} {h v : Nat} {rs : List Rec} {E : Gh → Prop} : ∀ (n : Nat) (x : Int) (o : Nat), OPS n f x → 0 ≤ x → x + n ≤ cdI f → (∀ o' : Nat, o' ≤ o + n → CX s h o' v rs) → (∀ g : Gh, g.isC = C → E g → (∀ k : Nat, (k : Int) < x + n → recsOK f g k v rs)) → COD f C (x + n) h (o + n) v rs E → COD f C x h o v rs E
  | 0, x, o, _, _, _, _, _, hc => by
    have e : x + ((0 : Nat) : Int) = x := by omega
    rw [e] at hc
    exact hc
  | n + 1, x, o, hO, h0, hle, hx, hr, hc => by
    obtain ⟨p1, p2, p3⟩ := hO
    have push : ((n + 1 : Nat) : Int) = (n : Int) + 1 := by omega
    rw [push] at hle hr hc
    have e1 : x + ((n : Int) + 1) = x + 1 + (n : Int) := by omega
    rw [e1] at hle hr hc
    have e2 : o + (n + 1) = o + 1 + n := by omega
    rw [e2] at hc hx
    have ih := COD.ops n (x + 1) (o + 1) p3 (by omega) hle hx hr hc
    have ek : (x.toNat : Int) = x := Int.toNat_of_nonneg h0
    have c1 : COD f C x.toNat h o v rs (fun g => E g ∧ FL f g v (x + 1) (x + 1) h (o + 1) rs) := COD.ins (hx o (by omega)) (by omega) (fun g hg hE => ⟨okJ_32 (c := (h, o, v, false, rs)) p1 ⟨p2.1, p2.2, by show FL f g v ((x.toNat : Int) + 1) ((x.toNat : Int) + 1) h (o + 1) rs; rw [ek]; exact hE.2⟩, hr g hg hE.1 _ (by omega)⟩)
    rw [ek] at c1
    exact COD.seq c1 ih (fun g _ hE => hE) (fun g _ hE hF => ⟨hE, hF⟩)
