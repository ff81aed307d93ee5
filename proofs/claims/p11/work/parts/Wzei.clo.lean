/-! both readers: a row closes -/
/-- what the base knows stays where more is good -/
def JBM (U : RS) (A : JBA) : Prop := ∀ (FC : Nat → Prop) (SF : CS) (nm : Nat → Nat → Prop) (X Y : Als) (h0 ω : Nat) (c0 : List Ent), S01 (GU FC SF U nm X) (GU FC SF U nm Y) → A FC SF nm X h0 ω c0 → A FC SF nm Y h0 ω c0
theorem lks.det {s : RS} : ∀ (l m : List Nat) (v : Int32), lks s v l → lks s v m → l = m
  | [], [], _, _, _ => rfl
  | [], j :: m, v, h, g => by
    have h1 : v.toInt < 0 := h
    have := g.1
    omega
  | j :: l, [], v, h, g => by
    have g1 : v.toInt < 0 := g
    have := h.1
    omega
  | j :: l, i :: m, v, h, g => by
    have e : j = i := by
      have h1 := h.1
      have g1 := g.1
      omega
    subst e
    rw [lks.det l m _ h.2 g.2]
/-- this place, inside the row -/
def JCU (FC : Nat → Prop) (SF : CS) (U : RS) (nm : Nat → Nat → Prop) (X : Als) (G : GHT) (ω : Nat) (r : RVW) (j : JCT) (S : CS) (s : RS) : Prop := S.i 36 = 1 → GU2 FC SF U nm X (pcC S) (pcR s) j.h (ω + (j.l + jlv r.v) - pcC S) (jen G ω r j.h j.l ++ j.c)
/-- where the jumps to the row lead, if one arrives -/
def JGV (FC : Nat → Prop) (SF : CS) (U : RS) (nm : Nat → Nat → Prop) (X : Als) (G : GHT) (ω : Nat) (r : RVW) (j : JCT) (s : RS) (vb vc : Int32) : Prop := (jfl s r.2.2.2 true = 1 → ∃ p q : Nat, (cTg SF (r.1 9)).toInt = (p : Int) ∧ vb.toInt = (q : Int) ∧ GU FC SF U nm X p q (jbk G ω r j).h (ω + (jbk G ω r j).l - p) 0 (jbk G ω r j).c) ∧ (isLo r.v → jfl s r.2.2.2 false = 1 → ∃ p q : Nat, (cTg SF (r.1 10)).toInt = (p : Int) ∧ vc.toInt = (q : Int) ∧ GU FC SF U nm X p q (jcn G ω r j).h (ω + (jcn G ω r j).l - p) 0 (jcn G ω r j).c)
def noc : Nat → Option (Nat × Bool) := fun _ => none
def noy : Nat → List Nat := fun _ => []
/-- what is known when a row closes -/
def KCL (U : RS) (r : RVW) (S : CS) (s : RS) (vb vc vs : Int32) : JKT := fun FC SF nm X ω j Z => ((∀ k : Nat, rsite r k → U.a 22 k = vs) ∧ (∀ x : Int32, rhd r x → ∃ p : Nat, (cTg SF x).toInt = (p : Int) ∧ p ≤ 1200 ∧ p ≤ pcC S) ∧ (isGo r.v → RHP r.v r.2.1) ∧ (dfr r.v = 1 → (r.1 2).toInt = (frs j.c : Int) ∧ NT5 (r.1 9))) ∧ ∃ G : GHT, HC0 nm j.h (jen G ω r j.h j.l ++ j.c) ∧ (∀ Y : Als, S01 (GU FC SF U nm X) (GU FC SF U nm Y) → JRH FC SF U nm Y G noc noy ω r j → (isGo r.v → JGV FC SF U nm Y G ω r j s vb vc) → JCU FC SF U nm Y G ω r j S s → JHH FC SF U nm Y G ω r j) ∧ (JRH FC SF U nm X G noc noy ω r j → (isGo r.v → JGV FC SF U nm X G ω r j s vb vc) → JCU FC SF U nm X G ω r j S s → Z)
/-- the colours of a goal go -/
def unc (g : Nat) (col : Nat → Option (Nat × Bool)) : Nat → Option (Nat × Bool) := fun j => if col j = some (g, true) ∨ col j = some (g, false) then none else col j
theorem unc.s {g j : Nat} {col : Nat → Option (Nat × Bool)} {x : Nat × Bool} (h : unc g col j = some x) : col j = some x ∧ ¬ x.1 = g := by
  unfold unc at h
  by_cases q : col j = some (g, true) ∨ col j = some (g, false)
  · rw [if_pos q] at h
    cases h
  · rw [if_neg q] at h
    refine ⟨h, fun e => q ?_⟩
    rw [h, ← e]
    obtain ⟨x1, x2⟩ := x
    cases x2 with
    | true => exact Or.inl rfl
    | false => exact Or.inr rfl
theorem unc.k {g j : Nat} {col : Nat → Option (Nat × Bool)} {x : Nat × Bool} (h : col j = some x) (n : ¬ x.1 = g) : unc g col j = some x := by
  unfold unc
  rw [if_neg (fun e => n (by
    rw [h] at e
    rcases e with e | e <;> (cases e; rfl)))]
  exact h
theorem unc.n {g j : Nat} {col : Nat → Option (Nat × Bool)} (h : col j = none) : unc g col j = none := by
  unfold unc
  rw [if_neg (fun e => by
    rw [h] at e
    rcases e with e | e <;> cases e)]
  exact h
theorem unc.z {g j : Nat} {k : Bool} {col : Nat → Option (Nat × Bool)} (h : col j = some (g, k)) : unc g col j = none := if_pos (by
  cases k with
  | true => exact Or.inl h
  | false => exact Or.inr h)
theorem ops.app : ∀ (a b : List Ent), ops (a ++ b) = ops a + ops b
  | [], b => (Nat.zero_add _).symm
  | e :: a, b => by
    have ih := ops.app a b
    have e1 : ops ((e :: a) ++ b) = ops (a ++ b) + (if e.k = 1 then e.z else 0) := rfl
    have e2 : ops (e :: a) = ops a + (if e.k = 1 then e.z else 0) := rfl
    rw [e1, e2, ih]
    omega
theorem msr.app (a b : List Ent) : msr b ≤ msr (a ++ b) := by
  unfold msr
  rw [List.length_append, ops.app]
  omega
/-- the row's targets -/
def tvs : List Int32 → List RVW
  | [] => []
  | x :: l => tv x :: tvs l
theorem tvs.mem {r : RVW} : ∀ (l : List Int32), r ∈ tvs l → ∃ x : Int32, r = tv x
  | [], h => absurd h List.not_mem_nil
  | x :: l, h => by
    rcases List.mem_cons.mp h with e | h
    · exact ⟨x, e⟩
    · exact tvs.mem l h
theorem tvs_ptl : ∀ (l : List Int32), ptl (tvs l) = l
  | [] => rfl
  | x :: l => by
    show rtgs (tv x) ++ ptl (tvs l) = x :: l
    rw [tv.tgs, tvs_ptl l]
    rfl
theorem tvs.rj : ∀ (l : List Int32), rjw (tvs l) = []
  | [] => rfl
  | x :: l => (tv.rj x (tvs l)).trans (tvs.rj l)
theorem JRS.cw {FC : Nat → Prop} {SF : CS} {U : RS} {nm : Nat → Nat → Prop} {X : Als} {G : GHT} {col col' : Nat → Option (Nat × Bool)} {YJ : Nat → List Nat} {ω h0 : Nat} {c0 : List Ent} : ∀ (V : List RVW), (∀ (i : Nat) (q : RVW) (k : Bool), q ∈ V → isGo q.v → col i = some (q.2.2.2, k) → col' i = some (q.2.2.2, k)) → JRS FC SF U nm X G col' YJ ω h0 c0 V → JRS FC SF U nm X G col YJ ω h0 c0 V
  | [], _, _ => True.intro
  | r :: V, hc, h => by
    obtain ⟨⟨h1, h2, h3, h4, h5, h6, h7, h8, h9⟩, h0'⟩ := h
    exact ⟨⟨h1, h2, h3, h4, h5, h6, h7, h8, fun go i fy => ⟨fun e => (h9 go i fy).1 (hc i r true List.mem_cons_self go e), fun e => (h9 go i fy).2 (hc i r false List.mem_cons_self go e)⟩⟩, JRS.cw V (fun i q k hq => hc i q k (List.mem_cons_of_mem _ hq)) h0'⟩
/-- and a switch's head -/
def KCL8 (β : Int) (U : RS) (r : RVW) (S : CS) (s u : RS) (vb vc vs : Int32) : JKT := fun FC SF nm X ω j Z => ((∀ k : Nat, rsite r k → U.a 22 k = vs) ∧ (∀ x : Int32, rhd r x → ∃ p : Nat, (cTg SF x).toInt = (p : Int) ∧ p ≤ 1200 ∧ p ≤ pcC S) ∧ (isGo r.v → RHP r.v r.2.1) ∧ (dfr r.v = 1 → (r.1 2).toInt = (frs j.c : Int) ∧ NT5 (r.1 9))) ∧ ∃ G : GHT, HC0 nm j.h (jen G ω r j.h j.l ++ j.c) ∧ (∀ Y : Als, S01 (GU FC SF U nm X) (GU FC SF U nm Y) → JRH FC SF U nm Y G noc noy ω r j → (isGo r.v → JGV FC SF U nm Y G ω r j s vb vc) → JCU FC SF U nm Y G ω r j S s → JHH FC SF U nm Y G ω r j) ∧ (JRH FC SF U nm X G noc noy ω r j → (isGo r.v → JGV FC SF U nm X G ω r j s vb vc) → JCU FC SF U nm X G ω r j S s → Z) ∧ (r.v = 218 → U.a 23 (r.2.1 66).toNatClampNeg = u.a 23 (r.2.1 66).toNatClampNeg ∧ SWG β G S s r ∧ ∀ M : List Nat, chn s (s.a 22 (r.2.1 66).toNatClampNeg) M → ∀ j ∈ M, U.a 25 j = s.a 25 j ∧ U.a 26 j = s.a 26 j ∧ U.a 27 j = s.a 27 j ∧ U.a 28 j = s.a 28 j)
/-- only second words are other, and the third of a switch's head -/
def S23 (r : RVW) (s u : RS) : Prop := u.i = s.i ∧ (∀ k : Nat, k ≠ 22 → k ≠ 23 → u.a k = s.a k) ∧ ∀ j : Nat, ¬ (r.v = 218 ∧ (j : Int) = (r.2.1 66).toInt) → u.a 23 j = s.a 23 j
/-- only second words are other -/
def S22 (s u : RS) : Prop := u.i = s.i ∧ ∀ k : Nat, k ≠ 22 → u.a k = s.a k
section
variable {A : JBA} {U : RS} {B : CS} {b : RS} {V : List RVW} {r : RVW} {S S' : CS} {s u u' : RS} {l1 l2 : List Nat} {vb vc vs : Int32}
set_option maxHeartbeats 2000000 in
/-- a row that is no try closes: what waits for it is aimed -/
theorem JRW.clo8 (h : JRW A U B b (r :: V) S s) (n8' : N8 B b (r :: V) S s → N8 B b V S' u') (h44 : (S.i 44).toInt ≤ 900) (mA : JBM U A) (pl : ∀ q ∈ V, q.2.2.1 < r.2.2.1) (gi : isGo r.v → ∀ q ∈ V, isGo q.v → ¬ q.2.2.2 = r.2.2.2) (nt : ¬ isTyv r) (hl : isGo r.v → lks s (s.a 48 r.2.2.2) l1 ∧ (isLo r.v → lks s (s.a 49 r.2.2.2) l2)) (e22 : S23 r s u) (u1 : isGo r.v → ∀ j ∈ l1, u.a 22 j = vb) (u2 : isLo r.v → ∀ j ∈ l2, u.a 22 j = vc) (u3 : ∀ j : Nat, rsite r j → u.a 22 j = vs ∧ (b.i 20).toInt ≤ (j : Int)) (u4 : ∀ j : Nat, (isGo r.v → ¬ j ∈ l1) → (isLo r.v → ¬ j ∈ l2) → ¬ rsite r j → u.a 22 j = s.a 22 j) (dS : D38 S S') (du : D52 u u') (e19 : (u'.i 19 = u.i 19 ∨ (b.i 19).toInt + (sfr V : Int) ≤ (u'.i 19).toInt) ∧ u'.i 11 = u.i 11 ∧ u'.i 43 = u.i 43 ∧ u'.i 59 = u.i 59) (eA : ∀ k : Nat, 47 ≤ k → k ≤ 62 → u'.a k = u.a k) (hN : ∀ (nm : Nat → Nat → Prop) (G : GHT) (ω : Nat) (j : JCT), NMG nm (jen G ω r j.h j.l ++ j.c) S s → HC0 nm j.h (jen G ω r j.h j.l ++ j.c) → NMH nm j.c S' u' ∧ HC0 nm j.h j.c) {e dr : Int} (hdr : ∀ G : GHT, (r.v = 218 → SWG (b.i 24).toInt G S s r) → dr ≤ dbr (G r.2.2.1) r.v) (h1 : e = 1 ∨ (e = 0 ∧ ALN (S.i 43))) (h8 : r.v = 218 → ∀ L : List Nat, chn s (s.a 22 (r.2.1 66).toNatClampNeg) L → ∀ j ∈ L, ¬ PCZ V j) : JRG A U B b V u' (tvs (rtgs r)) (KCL8 (b.i 24).toInt U r S s u vb vc vs) (-dr) e S' u' := by
  intro crB
  obtain ⟨⟨eB, hB1, b1⟩, ⟨b2, n8⟩, b3, Ψ, G, col, YJ, sax, pin, tgi, ⟨jsi, ⟨eD, hD1, bD⟩, hds⟩, main⟩ := h crB
  have leD : ∀ x : Int, (x = 0 ∨ (x = 1 ∧ ¬ ALN (S.i 43))) → x ≤ e := fun x hx => by
    rcases hx with z | ⟨z, z'⟩ <;> rcases h1 with q | ⟨q, q'⟩
    · omega
    · omega
    · omega
    · exact absurd q' z'
  obtain ⟨ei, ea, ea23⟩ := e22
  have rs8 : ∀ k : Nat, r.v = 218 ∧ (k : Int) = (r.2.1 66).toInt → rsite r k := fun k z => Or.inl ⟨Or.inr (Or.inr z.1), z.2⟩
  obtain ⟨j1, j2, j3, j4⟩ := jsi
  have b20 : 0 ≤ (b.i 20).toInt ∨ (b.i 20).toInt < 0 := by omega
  -- the chains
  have hl1 : isGo r.v → ∀ j : Nat, (col j = some (r.2.2.2, true) ↔ j ∈ l1) := fun go j => by
    obtain ⟨-, m1, m2, z1, z2, z3⟩ := j1 r List.mem_cons_self go
    rw [lks.det l1 m1 _ (hl go).1 z1]
    exact (z3 j).1
  have hl2 : isLo r.v → ∀ j : Nat, (col j = some (r.2.2.2, false) ↔ j ∈ l2) := fun lo j => by
    have go : isGo r.v := Or.inr (Or.inr lo)
    obtain ⟨-, m1, m2, z1, z2, z3⟩ := j1 r List.mem_cons_self go
    rw [lks.det l2 m2 _ ((hl go).2 lo) z2]
    exact (z3 j).2
  have hlo : ∀ j : Nat, isGo r.v → col j = some (r.2.2.2, false) → isLo r.v := fun j go hj => by
    obtain ⟨-, q, hq, gq, eq, -⟩ := j2 j _ _ hj
    rcases List.mem_cons.mp hq with z | z
    · rw [← z]
      exact gq.2 rfl
    · exact absurd eq (gi go q z gq.1)
  have cg : ∀ (j : Nat) (x : Nat × Bool), col j = some x → (x.1 = r.2.2.2 ∧ isGo r.v) ∨ (¬ (x.1 = r.2.2.2 ∧ isGo r.v) ∧ ∃ q ∈ V, isGo q.v ∧ q.2.2.2 = x.1) := fun j x hx => by
    obtain ⟨-, q, hq, gq, eq, -⟩ := j2 j x.1 x.2 hx
    rcases List.mem_cons.mp hq with z | z
    · rw [z] at gq eq
      exact Or.inl ⟨eq.symm, gq.1⟩
    · by_cases c : x.1 = r.2.2.2 ∧ isGo r.v
      · exact Or.inl c
      · exact Or.inr ⟨c, q, z, gq.1, eq⟩
  -- colours of the rows below
  obtain ⟨col', hc1, hc2⟩ : ∃ col' : Nat → Option (Nat × Bool), (isGo r.v → col' = unc r.2.2.2 col) ∧ (¬ isGo r.v → col' = col) := by
    by_cases go : isGo r.v
    · exact ⟨_, fun _ => rfl, fun z => absurd go z⟩
    · exact ⟨_, fun z => absurd z go, fun _ => rfl⟩
  have cs : ∀ (j : Nat) (x : Nat × Bool), col' j = some x → col j = some x ∧ ¬ (x.1 = r.2.2.2 ∧ isGo r.v) := fun j x hx => by
    by_cases go : isGo r.v
    · rw [hc1 go] at hx
      obtain ⟨y1, y2⟩ := unc.s hx
      exact ⟨y1, fun z => y2 z.1⟩
    · rw [hc2 go] at hx
      exact ⟨hx, fun z => go z.2⟩
  have ck : ∀ (j : Nat) (x : Nat × Bool), col j = some x → ¬ (x.1 = r.2.2.2 ∧ isGo r.v) → col' j = some x := fun j x hx hn => by
    by_cases go : isGo r.v
    · rw [hc1 go]
      exact unc.k hx (fun z => hn ⟨z, go⟩)
    · rw [hc2 go]
      exact hx
  have cn : ∀ j : Nat, col j = none → col' j = none := fun j hj => by
    by_cases go : isGo r.v
    · rw [hc1 go]
      exact unc.n hj
    · rw [hc2 go]
      exact hj
  have cz : ∀ (j : Nat) (k : Bool), isGo r.v → col j = some (r.2.2.2, k) → col' j = none := fun j k go hj => by
    rw [hc1 go]
    exact unc.z hj
  clear hc1 hc2
  have c0 : ∀ j : Nat, ¬ col' j = none → ¬ col j = none := fun j hj z => hj (cn j z)
  -- second words
  have uk : ∀ j : Nat, ¬ col' j = none → u.a 22 j = s.a 22 j := fun j hj => by
    cases ec : col' j with
    | none => exact absurd ec hj
    | some x =>
      obtain ⟨y1, y2⟩ := cs j x ec
      refine u4 j (fun go z => ?_) (fun lo z => ?_) (fun z => ?_)
      · have := (hl1 go j).mpr z
        rw [y1] at this
        cases this
        exact y2 ⟨rfl, go⟩
      · have := (hl2 lo j).mpr z
        rw [y1] at this
        cases this
        exact y2 ⟨rfl, Or.inr (Or.inr lo)⟩
      · have := j3 r List.mem_cons_self j z
        rw [y1] at this
        cases this
  have us : ∀ j : Nat, ¬ PEN (r :: V) col j → u.a 22 j = s.a 22 j := fun j hj => u4 j (fun go z => hj (Or.inl (by rw [(hl1 go j).mpr z]; exact fun y => by (cases y)))) (fun lo z => hj (Or.inl (by rw [(hl2 lo j).mpr z]; exact fun y => by (cases y)))) (fun z => hj (Or.inr ⟨r, List.mem_cons_self, z⟩))
  -- what waits
  have mt : ∀ {P : RVW → Prop}, (∀ x : Int32, ¬ P (tv x)) → (∃ q ∈ tvs (rtgs r) ++ V, P q) → ∃ q ∈ V, P q := fun {P} hP ⟨q, hq, p⟩ => by
    rcases List.mem_append.mp hq with z | z
    · obtain ⟨x, e⟩ := tvs.mem _ z
      rw [e] at p
      exact absurd p (hP x)
    · exact ⟨q, z, p⟩
  have pe : ∀ k : Nat, PEN (tvs (rtgs r) ++ V) col' k → ¬ col' k = none ∨ ∃ q ∈ V, rsite q k := fun k p => by
    rcases p with p | p
    · exact Or.inl p
    · exact Or.inr (mt (fun x => tv.site) p)
  have pe' : ∀ k : Nat, PEN (tvs (rtgs r) ++ V) col' k → PEN (r :: V) col k := fun k p => by
    rcases pe k p with p | ⟨q, hq, p⟩
    · exact Or.inl (c0 k p)
    · exact Or.inr ⟨q, List.mem_cons_of_mem _ hq, p⟩
  have ph' : ∀ k : Nat, PCH (tvs (rtgs r) ++ V) k → PCH (r :: V) k := fun k p => (mt (P := fun q => (q.v = 218 ∨ q.v = 995) ∧ (k : Int) = (q.2.1 66).toInt) (fun x z => absurd z.1 (by rw [tv.v]; decide)) p).elim (fun q z => ⟨q, List.mem_cons_of_mem _ z.1, z.2⟩)
  have pz' : ∀ k : Nat, PCZ (tvs (rtgs r) ++ V) k → PCZ (r :: V) k := fun k p => (mt (P := fun q => q.v = 218 ∧ (k : Int) = (q.2.1 67).toInt) (fun x z => absurd z.1 (by rw [tv.v]; decide)) p).elim (fun q z => ⟨q, List.mem_cons_of_mem _ z.1, z.2⟩)
  have py' : ∀ k : Nat, PTY (tvs (rtgs r) ++ V) k → PTY (r :: V) k := fun k p => (mt (P := fun q => isTyv q ∧ (k : Int) = (q.2.1 66).toInt) (fun x z => absurd z.1 tv.ty) p).elim (fun q z => ⟨q, List.mem_cons_of_mem _ z.1, z.2⟩)
  have pa' : ∀ k : Nat, PCA (tvs (rtgs r) ++ V) k → PCA (r :: V) k := fun k p => (mt (P := fun q => isTyv q ∧ (k : Int) = (q.2.1 72).toInt) (fun x z => absurd z.1 tv.ty) p).elim (fun q z => ⟨q, List.mem_cons_of_mem _ z.1, z.2⟩)
  have py2 : ∀ k : Nat, PTY V k → PTY (tvs (rtgs r) ++ V) k := fun k p => p.ap
  have ui20 : ∀ k : Nat, u.i k = s.i k := fun k => by rw [ei]
  have kdu : KD2 (b.i 20).toInt b u := by
    obtain ⟨⟨k1, k2, k3, k4, k5⟩, m1, m2, m3, m4⟩ := b3
    refine ⟨⟨by rw [ui20]; exact k1, by rw [ui20]; exact k2, by rw [ui20]; exact k3, by rw [ui20]; exact k4, fun q => by
      have z := k5 q
      unfold SLO at z ⊢
      rw [ui20, ui20]
      exact z⟩, fun j hj => ?_, fun j hj => by rw [ea 25 (by decide) (by decide), ea 26 (by decide) (by decide), ea 27 (by decide) (by decide), ea 28 (by decide) (by decide)]; exact m2 j hj, fun j hj => by rw [ea 30 (by decide) (by decide), ea 31 (by decide) (by decide), ea 32 (by decide) (by decide)]; exact m3 j hj, fun j hj => by rw [ea 34 (by decide) (by decide), ea 35 (by decide) (by decide), ea 36 (by decide) (by decide), ea 37 (by decide) (by decide)]; exact m4 j hj⟩
    rw [ea 21 (by decide) (by decide), ea23 j (fun w => by have := (u3 j (rs8 j w)).2; omega), u4 j (fun go z => ?_) (fun lo z => ?_) (fun z => ?_)]
    · exact m1 j hj
    · have := (j2 j _ _ ((hl1 go j).mpr z)).1.1
      omega
    · have := (j2 j _ _ ((hl2 lo j).mpr z)).1.1
      omega
    · have := (u3 j z).2
      omega
  have js : JSI Ψ V col' YJ b u := by
    refine ⟨fun q hq go => ?_, fun j g k hc => ?_, fun q hq k p => cn k (j3 q (List.mem_cons_of_mem _ hq) k p), j4.2⟩
    · obtain ⟨z0, m1, m2, z1, z2, z3⟩ := j1 q (List.mem_cons_of_mem _ hq) go
      have ne : ¬ (q.2.2.2 = r.2.2.2 ∧ isGo r.v) := fun z => gi z.2 q hq go z.1
      have lm : ∀ (m : List Nat) (k : Bool) (v : Int32), lks s v m → (∀ j ∈ m, col j = some (q.2.2.2, k)) → lks u v m := fun m k v z hm => lks.mv m v z (fun j hj => uk j (by rw [ck j _ (hm j hj) ne]; exact fun y => by (cases y)))
      refine ⟨by rw [ui20]; exact z0, m1, m2, by rw [ea 48 (by decide) (by decide)]; exact lm m1 true _ z1 (fun j hj => (z3 j).1.mpr hj), by rw [ea 49 (by decide) (by decide)]; exact lm m2 false _ z2 (fun j hj => (z3 j).2.mpr hj), fun j => ⟨?_, ?_⟩⟩
      · rw [← (z3 j).1]
        exact ⟨fun z => (cs j _ z).1, fun z => ck j _ z ne⟩
      · rw [← (z3 j).2]
        exact ⟨fun z => (cs j _ z).1, fun z => ck j _ z ne⟩
    · obtain ⟨y1, y2⟩ := cs j _ hc
      obtain ⟨⟨z1, z2⟩, q, hq, gq, eq, z3⟩ := j2 j g k y1
      have hq' : q ∈ V := (List.mem_cons.mp hq).resolve_left (fun z => y2 (by rw [z] at gq eq; exact ⟨eq.symm, gq.1⟩))
      refine ⟨⟨z1, by rw [ui20]; exact z2⟩, q, hq', gq, eq, ?_⟩
      rcases z3 with z3 | ⟨i, i1, i2, i3, r', hr', i4, i5, i6, i7, i8⟩ | ⟨w, hw, w1, w2, w3, w4⟩
      · refine Or.inl ?_
        unfold jfl at z3 ⊢
        rw [ea 50 (by decide) (by decide), ea 51 (by decide) (by decide)]
        exact z3
      · have hr2 : r' ∈ V := (List.mem_cons.mp hr').resolve_left (fun z => nt (by rw [← z]; exact i4))
        exact Or.inr (Or.inl ⟨i, by rw [ui20]; exact i1, by rw [ea 60 (by decide) (by decide)]; exact i2, by rw [ea 61 (by decide) (by decide)]; exact i3, r', hr2, i4, i5, by rw [ea 62 (by decide) (by decide)]; exact i6, i7, fun q2 hq2 => i8 q2 (List.mem_cons_of_mem _ hq2)⟩)
      · exact Or.inr (Or.inr ⟨w, hw, ⟨w1.1, by rw [ui20]; exact w1.2⟩, fun ⟨q, hq, p⟩ => w2 ⟨q, List.mem_cons_of_mem _ hq, p⟩, by rw [ea 31 (by decide) (by decide)]; exact w3, w4⟩)
  have gk : GKV V u u' := ⟨fun q hq go => by
    have z := (js.1 q hq go).1
    rw [eA 50 (by decide) (by decide), eA 51 (by decide) (by decide), eA 48 (by decide) (by decide), eA 49 (by decide) (by decide), eA 47 (by decide) (by decide)]
    exact ⟨by rw [e19.2.2.1]; exact z, rfl, rfl, rfl, rfl, rfl⟩, by rw [e19.2.2.2]; exact Int.le_refl _, fun j _ => by
    rw [eA 60 (by decide) (by decide), eA 61 (by decide) (by decide), eA 62 (by decide) (by decide)]
    exact ⟨rfl, rfl, rfl⟩⟩
  have js' : JSI Ψ V col' YJ b u' := js.mw gk (by rw [du.1.1]; exact Int.le_refl _) (by rw [du.1.2.2.1]; exact Int.le_refl _) (fun j _ => by rw [du.2.2.1]) (fun w _ _ => by rw [du.2.2.2.2.2.2.2.2.2.1]) (fun _ _ q => q)
  have pinu : PIN (tvs (rtgs r) ++ V) col' u := ⟨fun k q => by rw [ui20]; exact pin.1 k (pe' k q), fun k q => by rw [ui20]; exact pin.2.1 k (pz' k q), fun k q => by rw [ui20]; exact pin.2.2.1 k (py' k q), fun k q => by rw [ui20]; exact pin.2.2.2 k (pa' k q)⟩
  have pinV : PIN V col' u := ⟨fun k q => pinu.1 k (q.elim Or.inl (fun ⟨w, hw, p⟩ => Or.inr ⟨w, List.mem_append_right _ hw, p⟩)), fun k ⟨w, hw, p⟩ => pinu.2.1 k ⟨w, List.mem_append_right _ hw, p⟩, fun k q => pinu.2.2.1 k (py2 k q), fun k ⟨w, hw, p⟩ => pinu.2.2.2 k ⟨w, List.mem_append_right _ hw, p⟩⟩
  have saxu : SAX (tvs (rtgs r) ++ V) Ψ B b S u := by
    have z := SAX.mo py' pa' sax
    unfold SAX GHM SLO at z ⊢
    rw [ui20 42, ui20 20, ui20 29]
    exact z
  have tgu : TGI B (tvs (rtgs r) ++ V) S := by
    unfold TGI at tgi ⊢
    rw [ptl.app, tvs_ptl]
    exact tgi
  have swt : SWT (b.i 24).toInt G V S' u' := by
    have w1 : SWT (b.i 24).toInt G V S u := by
      have y1 : SWS (b.i 24).toInt G V S s := fun q hq => hds.2.1 q (List.mem_cons_of_mem _ hq)
      have y2 : SWP V s := fun q hq => hds.2.2 q (List.mem_cons_of_mem _ hq)
      refine ⟨y1.mv (Int.le_refl _) (Int.le_refl _) (fun _ _ => rfl) (by rw [ui20]; exact Int.le_refl _) (fun j _ => by
        rw [ea 25 (by decide) (by decide), ea 26 (by decide) (by decide), ea 27 (by decide) (by decide), ea 28 (by decide) (by decide)]
        exact ⟨rfl, rfl, rfl, rfl⟩) (fun q hq z => ?_) (fun q hq z => by rw [ea 31 (by decide) (by decide)]) (fun q hq z => by rw [ea 30 (by decide) (by decide)]), y2.mv (by rw [ui20]; exact Int.le_refl _) (by rw [ui20]; exact Int.le_refl _)⟩
      have rs := rsite.h8 z ((y2 q hq).1 z).1
      have cq := j3 q (List.mem_cons_of_mem _ hq) _ rs
      exact u4 _ (fun go w => by rw [(hl1 go _).mpr w] at cq; cases cq) (fun lo w => by rw [(hl2 lo _).mpr w] at cq; cases cq) (fun w => j4.1 _ w q hq rs)
    exact w1.d dS du
  have dbe : DB G (r :: V) = DB G V + dbr (G r.2.2.1) r.v := rfl
  have dge := DB.ge G V
  have hdr' := hdr G (hds.2.1 r List.mem_cons_self).1
  refine ⟨(bD.d dS).wk (by omega) (leD _ hD1), ⟨fun k k1 k2 => by rw [dS.2.2.2.1]; exact b2 k k1 k2, n8' n8⟩, kdu.d du, KDC.rf _, Ψ, G, col', YJ, saxu.d dS du, ⟨pinu.d du, pinV.d du⟩, tgu.d dS, ⟨⟨?_, ⟨fun q hq k p => ?_, j4.2, fun w hw k p => ?_⟩, fun _ _ => rfl, fun _ _ _ => rfl⟩, (bD.d dS).wk (by omega) (leD _ hD1), fun q hq x hx => by
    rw [dS.2.2.2.1, dS.1.2.1, dS.1.1]
    rcases List.mem_append.mp hq with z | z
    · obtain ⟨y, e⟩ := tvs.mem _ z
      rw [e] at hx
      exact absurd hx (tv.hd x)
    · exact hds.1 q (List.mem_cons_of_mem _ z) x hx, swt⟩, ?_⟩
  · rw [tvs.rj]
    exact js'
  · rcases List.mem_append.mp hq with z | z
    · obtain ⟨x, e⟩ := tvs.mem _ z
      rw [e] at p
      exact absurd p tv.site
    · exact cn k (j3 q (List.mem_cons_of_mem _ z) k p)
  · obtain ⟨x, e⟩ := tvs.mem _ hw
    rw [e] at p
    exact absurd p tv.site
  intro FC SF nm X h0 ω c0' psi ng0 hc0 hh0 hω
  obtain ⟨⟨ng, hc, hh, dp⟩, mn⟩ := main FC SF nm X h0 ω c0' psi ng0 hc0 hh0 hω
  have e1 : JCX G ω h0 c0' (r :: V) = ((JCX G ω h0 c0' V).h, (JCX G ω h0 c0' V).l + jlv r.v, jty r.v ((JCX G ω h0 c0' V).l + jlv r.v) (JCX G ω h0 c0' V).t, jen G ω r (JCX G ω h0 c0' V).h (JCX G ω h0 c0' V).l ++ (JCX G ω h0 c0' V).c) := rfl
  rw [e1] at ng hc hh
  obtain ⟨nh, hc1⟩ := hN nm G ω (JCX G ω h0 c0' V) ng hc
  have frl : frs (JCX G ω h0 c0' V).c ≤ frs (jen G ω r (JCX G ω h0 c0' V).h (JCX G ω h0 c0' V).l ++ (JCX G ω h0 c0' V).c) := by
    rw [frs.app]
    omega
  have msl : msr (JCX G ω h0 c0' V).c ≤ msr (jen G ω r (JCX G ω h0 c0' V).h (JCX G ω h0 c0' V).l ++ (JCX G ω h0 c0' V).c) := msr.app _ _
  have fr9 := ng.2.2.2.1
  have hh' : ((2 * (JCX G ω h0 c0' V).h + msr (jen G ω r (JCX G ω h0 c0' V).h (JCX G ω h0 c0' V).l ++ (JCX G ω h0 c0' V).c) : Nat) : Int) ≤ (s.i 11).toInt := hh
  have fr9' : ((frs (jen G ω r (JCX G ω h0 c0' V).h (JCX G ω h0 c0' V).l ++ (JCX G ω h0 c0' V).c) : Nat) : Int) ≤ (s.i 19).toInt := fr9
  have l19 : (frs (JCX G ω h0 c0' V).c : Int) ≤ (u'.i 19).toInt := by
    rcases e19.1 with z | z
    · rw [z, ui20]
      omega
    · have c1 := (JCX.cnt G ω h0 c0' V).2.1
      have c2 := ng0.2.2.2.1
      omega
  refine ⟨⟨⟨nh, l19⟩, hc1, by rw [e19.2.1, ui20]; omega, fun q hq hv => ?_, ?_⟩, fun fc fg hA tyc jr => ?_⟩
  · obtain ⟨x, e⟩ := tvs.mem _ hq
    rw [e] at hv
    exact absurd hv (WGD.no (by rw [tv.v]; decide) rfl)
  · exact dp.2.mv V (fun q hq go => by rw [eA 47 (by decide) (by decide), ea 47 (by decide) (by decide)]) (by rw [e19.2.1, ui20]; exact Int.le_refl _)
  have fcS : FGD (r :: V) B S SF := (fc.d dS).pl (fun y hy => by rw [ptl.app, tvs_ptl] at hy; exact hy)
  have fgu : FGP (tvs (rtgs r) ++ V) col' b u U := fg.d du
  obtain ⟨g1, g4, g5, g6, g7⟩ := fgu
  rw [ui20] at g1 g4 g5 g6 g7
  have fgs : FGP (r :: V) col b s U := ⟨g1, fun j j1 j2 => ⟨by rw [(g4 j j1 j2).1, ea 21 (by decide) (by decide)], fun q => by rw [(g4 j j1 j2).2.1 (fun p => q (pe' j p)), us j q], fun q => by rw [(g4 j j1 j2).2.2 (fun p => q (ph' j p)), ea23 j (fun w => q ⟨r, List.mem_cons_self, Or.inl w.1, w.2⟩)]⟩, fun j j1 j2 => ⟨by rw [(g5 j j1 j2).1, ea 25 (by decide) (by decide)], by rw [(g5 j j1 j2).2.1, ea 26 (by decide) (by decide)], fun q => by rw [(g5 j j1 j2).2.2.1 (fun p => q (pz' j p)), ea 27 (by decide) (by decide)], by rw [(g5 j j1 j2).2.2.2, ea 28 (by decide) (by decide)]⟩, fun j j1 j2 q => by
    have z := g6 j j1 j2 (fun p => q (py' j p))
    rw [ea 30 (by decide) (by decide), ea 31 (by decide) (by decide), ea 32 (by decide) (by decide)] at z
    exact z, fun j j1 j2 => ⟨by rw [(g7 j j1 j2).1, ea 34 (by decide) (by decide)], by rw [(g7 j j1 j2).2.1, ea 35 (by decide) (by decide)], by rw [(g7 j j1 j2).2.2.1, ea 36 (by decide) (by decide)], fun q => by rw [(g7 j j1 j2).2.2.2 (fun p => q (pa' j p)), ea 37 (by decide) (by decide)]⟩⟩
  -- sites
  have np : ∀ j : Nat, rsite r j → ¬ PEN (tvs (rtgs r) ++ V) col' j := fun j z p => by
    rcases pe j p with p | ⟨q, hq, p⟩
    · exact p (cn j (j3 r List.mem_cons_self j z))
    · exact j4.1 j z q hq p
  have nq : ∀ (j : Nat) (k : Bool), isGo r.v → col j = some (r.2.2.2, k) → ¬ PEN (tvs (rtgs r) ++ V) col' j := fun j k go z p => by
    rcases pe j p with p | ⟨q, hq, p⟩
    · exact p (cz j k go z)
    · have := j3 q (List.mem_cons_of_mem _ hq) j p
      rw [z] at this
      cases this
  have arr : isGo r.v → ∀ (i : Nat) (k : Bool), col i = some (r.2.2.2, k) → FCY FC U (YJ i) → jfl s r.2.2.2 k = 1 := fun go i k hc fy => by
    obtain ⟨-, q, hq, gq, eq, z3⟩ := j2 i _ _ hc
    rcases z3 with z3 | ⟨-, -, -, -, r', hr', i4, i5, -⟩ | ⟨w, hw, w1, w2, w3, w4⟩
    · exact z3
    · exfalso
      have hr2 : r' ∈ V := (List.mem_cons.mp hr').resolve_left (fun z => nt (by rw [← z]; exact i4))
      have p1 := pl r' hr2
      rcases List.mem_cons.mp hq with z | z
      · rw [z] at i5
        omega
      · exact gi go q z gq.1 eq
    · exfalso
      have z := (fgs.2.2.2.1 w w1.1 w1.2 w2).2.1
      exact w4 FC nm psi (fy w hw (by rw [z]; exact w3))
  have jgl : ∀ Y : Als, isGo r.v → JGV FC SF U nm Y G ω r (JCX G ω h0 c0' V) s vb vc → JGL FC SF U nm Y G col YJ ω r (JCX G ω h0 c0' V) := fun Y go jv i fy => by
    refine ⟨fun hc => ?_, fun hc => ?_⟩
    · obtain ⟨p, q, z1, z2, z3⟩ := jv.1 (arr go i true hc fy)
      have ii := (j2 i _ _ hc).1
      exact ⟨p, q, z1, by rw [(g4 i ii.1 ii.2).2.1 (nq i true go hc), u1 go i ((hl1 go i).mp hc)]; exact z2, z3⟩
    · obtain ⟨p, q, z1, z2, z3⟩ := jv.2 (hlo i go hc) (arr go i false hc fy)
      have ii := (j2 i _ _ hc).1
      exact ⟨p, q, z1, by rw [(g4 i ii.1 ii.2).2.1 (nq i false go hc), u2 (hlo i go hc) i ((hl2 (hlo i go hc) i).mp hc)]; exact z2, z3⟩
  have jrh : ∀ Y : Als, JRH FC SF U nm Y G noc noy ω r (JCX G ω h0 c0' V) → (isGo r.v → JGV FC SF U nm Y G ω r (JCX G ω h0 c0' V) s vb vc) → JRH FC SF U nm Y G col YJ ω r (JCX G ω h0 c0' V) := fun Y z jv => ⟨z.1, z.2.1, z.2.2.1, z.2.2.2.1, z.2.2.2.2.1, z.2.2.2.2.2.1, z.2.2.2.2.2.2.1, z.2.2.2.2.2.2.2.1, fun go => jgl Y go (jv go)⟩
  have jr' : JRS FC SF U nm X G col YJ ω h0 c0' V := JRS.cw V (fun i q k hq gq e => ck i _ e (fun z => gi z.2 q hq gq z.1)) jr
  have hdp : ∀ x : Int32, rhd r x → ∃ p : Nat, (cTg SF x).toInt = (p : Int) ∧ p ≤ 1200 ∧ p ≤ pcC S := fun x hx => by
    obtain ⟨z1, z2, z3, z4⟩ := hds.1 r List.mem_cons_self x hx
    obtain ⟨-, r2, r3, -, -⟩ := crB.rms b1
    have b0 := crB.1.1.2.1
    have le1 : eB ≤ 1 := by rcases hB1 with z | ⟨z, -⟩ <;> omega
    have ckx := clampI (show 0 ≤ x.toInt by omega)
    have sf := fcS.2.2 x.toNatClampNeg (by omega) (by omega) (Or.inl z3)
    refine ⟨(S.a 17 x.toNatClampNeg).toInt.toNat, ?_, by have := fcS.1.2; omega, by unfold pcC; omega⟩
    unfold cTg gAt
    rw [if_pos (show ib x 1024 from ⟨by omega, by omega⟩)]
    show (SF.a 17 x.toNatClampNeg).toInt = _
    rw [sf]
    omega
  refine ⟨⟨fun k z => by rw [(g4 k (u3 k z).2 (pin.1 k (Or.inr ⟨r, List.mem_cons_self, z⟩))).2.1 (np k z)]; exact (u3 k z).1, hdp, fun go => (dp.1.1 go).2.2.2, fun z => ⟨by rw [(dp.1.2.1 z).1, (JCX.cnt G ω h0 c0' V).2.1], (dp.1.2.1 z).2⟩⟩, G, hc, fun Y sy z jv cu => ?_, fun z jv cu => ?_, fun z8 => ?_⟩
  · obtain ⟨-, mY⟩ := main FC SF nm Y h0 ω c0' psi ng0 hc0 hh0 hω
    exact (mY fcS fgs (mA FC SF nm X Y h0 ω c0' sy hA) (tyc.m0 sy) ⟨jrh Y z jv, JRS.m0 sy V jr'⟩ cu).2.1
  · have y := mn fcS fgs hA tyc ⟨jrh X z jv, jr'⟩ cu
    exact ⟨y.1, y.2.2⟩
  · have sp := (hds.2.2 r List.mem_cons_self).1 z8
    have rs := rsite.h8 z8 sp.1
    refine ⟨?_, (hds.2.1 r List.mem_cons_self).1 z8, fun M hM j hj => ?_⟩
    · refine (g4 _ (u3 _ rs).2 (pin.1 _ (Or.inr ⟨r, List.mem_cons_self, rs⟩))).2.2 (fun p => ?_)
      obtain ⟨q, hq, p1, p2⟩ := mt (P := fun q => (q.v = 218 ∨ q.v = 995) ∧ (((r.2.1 66).toNatClampNeg : Nat) : Int) = (q.2.1 66).toInt) (fun x z => absurd z.1 (by rw [tv.v]; decide)) p
      exact j4.1 _ rs q hq (p1.elim (fun w => Or.inl ⟨Or.inr (Or.inr w), p2⟩) (fun w => Or.inr (Or.inr (Or.inr ⟨Or.inr w, p2⟩))))
    · obtain ⟨M0, m1, m2, m3⟩ := (hds.2.1 r List.mem_cons_self).1 z8
      rw [chn.uq _ _ _ hM m1] at hj
      have lj := chn.lt M0 _ m1 j hj
      have z := g5 j (m3 j hj).1 lj
      rw [ea 25 (by decide) (by decide), ea 26 (by decide) (by decide), ea 27 (by decide) (by decide), ea 28 (by decide) (by decide)] at z
      exact ⟨z.1, z.2.1, z.2.2.1 (fun p => h8 z8 M0 m1 j hj (mt (P := fun q => q.v = 218 ∧ (j : Int) = (q.2.1 67).toInt) (fun x z => absurd z.1 (by rw [tv.v]; decide)) p)), z.2.2.2⟩
/-- a row that is no try and no switch closes -/
theorem JRW.clo (h : JRW A U B b (r :: V) S s) (n8' : N8 B b (r :: V) S s → N8 B b V S' u') (h44 : (S.i 44).toInt ≤ 900) (mA : JBM U A) (pl : ∀ q ∈ V, q.2.2.1 < r.2.2.1) (gi : isGo r.v → ∀ q ∈ V, isGo q.v → ¬ q.2.2.2 = r.2.2.2) (nt : ¬ isTyv r) (n218 : ¬ (r.v = 218 ∨ r.v = 995)) (hl : isGo r.v → lks s (s.a 48 r.2.2.2) l1 ∧ (isLo r.v → lks s (s.a 49 r.2.2.2) l2)) (e22 : S22 s u) (u1 : isGo r.v → ∀ j ∈ l1, u.a 22 j = vb) (u2 : isLo r.v → ∀ j ∈ l2, u.a 22 j = vc) (u3 : ∀ j : Nat, rsite r j → u.a 22 j = vs ∧ (b.i 20).toInt ≤ (j : Int)) (u4 : ∀ j : Nat, (isGo r.v → ¬ j ∈ l1) → (isLo r.v → ¬ j ∈ l2) → ¬ rsite r j → u.a 22 j = s.a 22 j) (dS : D38 S S') (du : D52 u u') (e19 : (u'.i 19 = u.i 19 ∨ (b.i 19).toInt + (sfr V : Int) ≤ (u'.i 19).toInt) ∧ u'.i 11 = u.i 11 ∧ u'.i 43 = u.i 43 ∧ u'.i 59 = u.i 59) (eA : ∀ k : Nat, 47 ≤ k → k ≤ 62 → u'.a k = u.a k) (hN : ∀ (nm : Nat → Nat → Prop) (G : GHT) (ω : Nat) (j : JCT), NMG nm (jen G ω r j.h j.l ++ j.c) S s → HC0 nm j.h (jen G ω r j.h j.l ++ j.c) → NMH nm j.c S' u' ∧ HC0 nm j.h j.c) {e dr : Int} (hdr : ∀ G : GHT, dr ≤ dbr (G r.2.2.1) r.v) (h1 : e = 1 ∨ (e = 0 ∧ ALN (S.i 43))) : JRG A U B b V u' (tvs (rtgs r)) (KCL U r S s vb vc vs) (-dr) e S' u' := (JRW.clo8 h n8' h44 mA pl gi nt hl ⟨e22.1, fun k k1 _ => e22.2 k k1, fun j _ => by rw [e22.2 23 (by decide)]⟩ u1 u2 u3 u4 dS du e19 eA hN (fun G _ => hdr G) h1 (fun z => absurd (Or.inl z) n218)).imp (Int.le_refl _) (Int.le_refl _) (fun FC SF nm X ω j Z _ _ _ _ _ _ k => by
  obtain ⟨k1, G, k2, k3, k4, -⟩ := k
  exact ⟨k1, G, k2, k3, k4⟩)
/-- names go, signs, rows: nothing of the code -/
theorem JRG.drp {V0 W : List RVW} {s0 : RS} {K : JKT} {a e : Int} {R : CS} (h : JRG A U B b V0 s0 W K a e S s) (kp : pe R = pe S) (i21 : R.i 21 = S.i 21) (i44 : R.i 44 = S.i 44) (a48 : R.a 48 = S.a 48) (a49 : R.a 49 = S.a 49) (q : qe u = qe s) (i38 : (u.i 38).toInt ≤ (s.i 38).toInt) (a40 : u.a 40 = s.a 40) : JRG A U B b V0 s0 W K a e R u := by
  intro crB
  obtain ⟨b1, ⟨b2, n8⟩, b3, b4, Ψ, G, col, YJ, sax, ⟨pin, pin0⟩, tgi, jsi, main⟩ := h crB
  have dR := D38.of kp i21 i44
  have du := D52.of q
  have p38 : R.i 38 = S.i 38 := (pe_eq kp).2.2.2.2.2.1
  have q52 : u.i 52 = s.i 52 := (qe_eq q).1.2.2.2.2.2
  refine ⟨b1.d dR, ⟨fun k k1 k2 => by rw [dR.2.2.2.1]; exact b2 k k1 k2, n8.lo a48 a49 q52 i38⟩, b3.d du, b4.d du, Ψ, G, col, YJ, sax.d dR du, ⟨pin.d du, pin0⟩, tgi.d dR, ⟨⟨jsi.1.1, jsi.1.2.1, fun j hj => by rw [du.2.2.1]; exact jsi.1.2.2.1 j hj, fun w w1 w2 => by rw [du.2.2.2.2.2.2.2.2.2.1]; exact jsi.1.2.2.2 w w1 w2⟩, jsi.2.1.d dR, fun q hq x hx => by
    rw [dR.2.2.2.1, dR.1.2.1, dR.1.1]
    exact jsi.2.2.1 q hq x hx, jsi.2.2.2.d dR du⟩, ?_⟩
  intro FC SF nm X h0 ω c0 psi ng0 hc0 hh0 hω
  obtain ⟨⟨ng, hc, hh, wn⟩, mn⟩ := main FC SF nm X h0 ω c0 psi ng0 hc0 hh0 hω
  refine ⟨⟨⟨⟨fun k hk => ?_, by rw [p38]; exact ng.1.2.1, by rw [q52]; exact ng.1.2.2.1, ng.1.2.2.2.d dR du⟩, ng.2⟩, hc, hh, wn.mv (by rw [dR.1.2.2.2.1]; exact Int.le_refl _) (fun _ hr _ => hr)⟩, fun fc fg hA tyc jr => mn (fc.d dR) (fg.d du) hA tyc jr⟩
  rw [a48, a49, a40]
  exact ng.1.1 k (by omega)
end
