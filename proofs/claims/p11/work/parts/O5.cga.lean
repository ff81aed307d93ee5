/-! the class's reading: an instruction, a target, an aim -/
/-- code, rows and names are as they were -/
def CK0 (s R : CS) : Prop := (R.a 15 = s.a 15 ∧ R.a 16 = s.a 16 ∧ R.a 17 = s.a 17 ∧ R.a 19 = s.a 19 ∧ R.a 49 = s.a 49) ∧ (R.i 20 = s.i 20 ∧ R.i 21 = s.i 21 ∧ R.i 50 = s.i 50 ∧ R.i 53 = s.i 53) ∧ R.r 51 = s.r 51 ∧ (∀ a : Nat, oK s a 0 → R.o a = s.o a ∧ R.ol a = s.ol a)
theorem CK0.rf (s : CS) : CK0 s s := ⟨⟨rfl, rfl, rfl, rfl, rfl⟩, ⟨rfl, rfl, rfl, rfl⟩, rfl, fun _ _ => ⟨rfl, rfl⟩⟩
theorem CK0.rsq {s R : CS} (h : CK0 s R) (hr : REFS s) {n : Nat} (hn : n ≤ 400) : RSQ s R n := fun i hi => ⟨by rw [h.2.2.1], fun a e => h.2.2.2 a (hr.2.1 i a (by omega) e)⟩
theorem OWN.of {s R : CS} {t : Nat} (h : OWN s t) (hc : cnI s ≤ cnI R) (hs : ∀ i a : Nat, (i : Int) < cnI s → s.r 51 i = some a → R.r 51 i = some a ∧ R.o a = s.o a) : OWN R t := by
  obtain ⟨i, a, h1, h2, h3⟩ := h
  have q := hs i a h1 h2
  exact ⟨i, a, by omega, q.1, by unfold OWS at *; rw [q.2]; exact h3⟩
theorem GW.ck0 {cD c : List Nat} {X : List (Nat × List Nat)} {P : List Nat} {lim : List Int} {s R : CS} (h : GW cD c X P lim s) (hr : REFS s) (hk : CK0 s R) (hl : lmh lim ≤ ccI R) : GW cD c X P lim R := by
  obtain ⟨D, DT, KT, h1, h2, h3, h4, h5, ⟨n, n1, n2, n3⟩, h7, h8⟩ := h
  have rq := hk.rsq hr n2
  obtain ⟨⟨e1, e2, e3, e4, e5⟩, ⟨e6, e7, e8, e9⟩, e10, e11⟩ := hk
  have etc : tcI R = tcI s := by unfold tcI; rw [e7]
  have esz : szI R = szI s := by unfold szI; rw [e6]
  have ecn : cnI R = cnI s := by unfold cnI; rw [e9]
  have enm : nmI R = nmI s := by unfold nmI; rw [e8]
  refine ⟨D, DT, KT, ?_, ?_, fun t q1 q2 q3 => ?_, by rw [esz]; exact h4, by rw [etc]; exact h5, ⟨n, by rw [ecn]; exact n1, n2, ?_⟩, by rw [enm, e5]; exact h7, by rw [etc]; exact h8.1, hl, h8.2.2.of ecn enm (fun i a hi e => by rw [e10] at e; exact ⟨e, (e11 a (hr.2.1 i a (by omega) e)).1⟩)⟩
  · unfold CDT at *; rw [e1, e2, etc, esz]; exact h1
  · unfold TGS at *; rw [e3, etc, esz]; exact h2
  · rw [etc] at q1
    rw [e3] at q3
    rcases h3 t q1 q2 q3 with z | z
    · exact Or.inl z
    · exact Or.inr (z.of (by omega) (fun i a hi e => ⟨by rw [e10]; exact e, (e11 a (hr.2.1 i a (by omega) e)).1⟩))
  · exact n3.mono (by omega) (fun _ _ => ⟨rfl, Iff.rfl⟩) (fun t _ q => by rw [e3]; exact q) rq (fun m _ => by rw [e4]) (fun _ _ _ _ m _ => by rw [e5]) n3.nr
def CK (s R : CS) : Prop := CK0 s R ∧ R.i 22 = s.i 22
theorem CK.rf (s : CS) : CK s s := ⟨CK0.rf s, rfl⟩
theorem CK.rsq {s R : CS} (h : CK s R) (hr : REFS s) {n : Nat} (hn : n ≤ 400) : RSQ s R n := h.1.rsq hr hn
theorem GW.lim {cD c : List Nat} {X : List (Nat × List Nat)} {P : List Nat} {lim : List Int} {s : CS} (h : GW cD c X P lim s) : lmh lim ≤ ccI s := by
  obtain ⟨D, DT, KT, h1, h2, h3, h4, h5, h6, h7, h8⟩ := h
  exact h8.2.1
theorem GW.ck {cD c : List Nat} {X : List (Nat × List Nat)} {P : List Nat} {lim : List Int} {s R : CS} (h : GW cD c X P lim s) (hr : REFS s) (hk : CK s R) : GW cD c X P lim R := h.ck0 hr hk.1 (by unfold ccI; rw [hk.2]; exact h.lim)
/-- an instruction more -/
def ADD (s R : CS) (o x : Int32) : Prop := (R.hs = s.hs ∧ R.L = s.L ∧ R.k = s.k ∧ R.o = s.o ∧ R.ol = s.ol ∧ R.ot = s.ot ∧ R.r = s.r ∧ R.w = s.w ∧ R.b = s.b ∧ R.l = s.l) ∧ (∀ j : Nat, j ≠ 20 → R.i j = s.i j) ∧ R.i 20 = s.i 20 + 1 ∧ (∀ k : Nat, k ≠ 15 → k ≠ 16 → R.a k = s.a k) ∧ R.a 15 = gPut (s.a 15) 1200 (s.i 20) o ∧ R.a 16 = gPut (s.a 16) 1200 (s.i 20) x
theorem q_add (N : Nat) (s : CS) (o x : Int32) : ok (f_X0_add N s o x) (fun R => ADD s R.2 o x) := by
  unfold f_X0_add
  have e16 : CS.a (CS.putA s 15 (gPut (s.a 15) 1200 (s.i 20) o)) 16 = s.a 16 := ca_ne _ _ _ (by decide)
  rw [e16]
  refine ok_some ⟨⟨?_, ?_, ?_, ?_, ?_, ?_, ?_, ?_, ?_, ?_⟩, fun j hj => ?_, ?_, fun k q1 q2 => ?_, ?_, ?_⟩
  · rw [chs_setI, chs_putA, chs_putA]
  · rw [cL_setI, cL_putA, cL_putA]
  · rw [ck_setI, ck_putA, ck_putA]
  · rw [co_setI, co_putA, co_putA]
  · rw [col_setI, col_putA, col_putA]
  · rw [cot_setI, cot_putA, cot_putA]
  · rw [cr_setI, cr_putA, cr_putA]
  · rw [cw_setI, cw_putA, cw_putA]
  · rw [cb_setI, cb_putA, cb_putA]
  · rw [cl_setI, cl_putA, cl_putA]
  · rw [ci_ne _ _ _ hj, ci_putA, ci_putA]
  · rw [ci_at]
  · rw [ca_setI, ca_ne _ _ _ q2, ca_ne _ _ _ q1]
  · rw [ca_setI, ca_ne _ _ _ (by decide), ca_put]
  · rw [ca_setI, ca_put]
theorem gPut_ne {f : Nat → Int32} {n : Nat} {i v : Int32} {p : Nat} (h : (p : Int) ≠ i.toInt) : gPut f n i v p = f p := by
  unfold gPut
  by_cases c : ib i n
  · rw [if_pos c]
    have := clampI c.1
    exact if_neg (by omega)
  · rw [if_neg c]
theorem gPut_at {f : Nat → Int32} {n : Nat} {i v : Int32} {p : Nat} (h : (p : Int) = i.toInt) (hn : p < n) : gPut f n i v p = v := by
  unfold gPut
  have c : ib i n := ⟨by omega, by omega⟩
  rw [if_pos c]
  have := clampI c.1
  exact if_pos (by omega)
theorem GW.add {cD c c1 : List Nat} {X : List (Nat × List Nat)} {P : List Nat} {lim : List Int} {s R : CS} {o x : Int32} (h : GW cD c X P lim s) (hr : REFS s) (ha : ADD s R o x) (hs : szI s ≤ 1000000) (hl : cD.length ≤ 21) (hI : ∀ (DT : Nat → List Nat) (KT : Nat → Prop), (∀ q ∈ X, (q.1 : Int) < tcI s ∧ DT q.1 = q.2 ∧ ¬ KT q.1) → (∀ n : Nat, (n : Int) = cnI s → RCH s DT KT n c lim) → (∀ n : Nat, (n : Int) < nmI s → NMT (s.a 49 n) c) → IOK (tcI s) DT KT o x cD c1) : GW c1 c X P lim R := by
  obtain ⟨D, DT, KT, h1, h2, h3, h4, h5, ⟨n, n1, n2, n3⟩, h7, h8⟩ := h
  obtain ⟨⟨b1, b2, b3, b4, b5, b6, b7, b8, b9, b10⟩, b11, b12, b13, b14, b15⟩ := ha
  have e1 : (1 : Int32).toInt = 1 := by decide
  have h40 := h4.1
  have h40' : 0 ≤ (s.i 20).toInt := h40
  have hs' : (s.i 20).toInt ≤ 1000000 := hs
  have esz : szI R = szI s + 1 := by
    show (R.i 20).toInt = (s.i 20).toInt + 1
    rw [b12, toInt_add] <;> rw [e1] <;> omega
  have etc : tcI R = tcI s := by unfold tcI; rw [b11 21 (by decide)]
  have ecn : cnI R = cnI s := by unfold cnI; rw [b11 53 (by decide)]
  have enm : nmI R = nmI s := by unfold nmI; rw [b11 50 (by decide)]
  have eS : ((szI s).toNat : Int) = szI s := Int.toNat_of_nonneg h40
  have nn' : ∀ m : Nat, (m : Int) = cnI s → RCH s DT KT m c lim := fun m hm => by
    have e : m = n := by omega
    rw [e]
    exact n3
  have hio := hI DT KT h5 nn' h7
  refine ⟨fun p => if p = (szI s).toNat + 1 then c1 else D p, DT, KT, fun p p1 p2 => ?_, fun t q => ?_, fun t q1 q2 q3 => ?_, ⟨by omega, ?_, by show (if 0 = (szI s).toNat + 1 then c1 else D 0) = []; rw [if_neg (by omega)]; exact h4.2.2⟩, by rw [etc]; exact h5, ⟨n, by rw [ecn]; exact n1, n2, ?_⟩, by rw [enm, b13 49 (by decide) (by decide)]; exact h7, by rw [etc]; exact h8.1, by unfold ccI; rw [b11 22 (by decide)]; exact h8.2.1, h8.2.2.of ecn enm (fun i a _ e => by rw [b7] at e; exact ⟨e, by rw [b4]⟩)⟩
  · have np : p ≠ (szI s).toNat + 1 := by omega
    show IOK (tcI R) DT KT (R.a 15 p) (R.a 16 p) (if p = (szI s).toNat + 1 then c1 else D p) (if p + 1 = (szI s).toNat + 1 then c1 else D (p + 1)) ∧ (if p = (szI s).toNat + 1 then c1 else D p).length ≤ 21
    rw [if_neg np, etc, b14, b15]
    by_cases c9 : (p : Int) = szI s
    · have e' : p = (szI s).toNat := by omega
      rw [gPut_at c9 p1, gPut_at c9 p1, if_pos (by omega), e', h4.2.1]
      exact ⟨hio, hl⟩
    · rw [gPut_ne c9, gPut_ne c9, if_neg (by omega)]
      exact h1 p p1 (by omega)
  · rw [etc] at q
    rw [b13 17 (by decide) (by decide), esz]
    rcases h2 t q with z | ⟨z1, z2, z3⟩
    · exact Or.inl z
    · refine Or.inr ⟨z1, by omega, ?_⟩
      show (if (s.a 17 t).toInt.toNat = (szI s).toNat + 1 then c1 else D (s.a 17 t).toInt.toNat) = DT t
      rw [if_neg (by omega)]
      exact z3
  · rw [etc] at q1
    rw [b13 17 (by decide) (by decide)] at q3
    rcases h3 t q1 q2 q3 with z | z
    · exact Or.inl z
    · exact Or.inr (z.of (by omega) (fun i a _ e => ⟨by rw [b7]; exact e, by rw [b4]⟩))
  · show (if (szI R).toNat = (szI s).toNat + 1 then c1 else D (szI R).toNat) = c1
    rw [if_pos (by omega)]
  · exact n3.mono (by omega) (fun _ _ => ⟨rfl, Iff.rfl⟩) (fun t _ q => by rw [b13 17 (by decide) (by decide)]; exact q) (fun i _ => ⟨by rw [b7], fun a _ => ⟨by rw [b4], by rw [b5]⟩⟩) (fun m _ => by rw [b13 19 (by decide) (by decide)]) (fun _ _ _ _ m _ => by rw [b13 49 (by decide) (by decide)]) n3.nr
/-- a new target -/
def NTG (s R : CS) : Prop := (R.hs = s.hs ∧ R.L = s.L ∧ R.k = s.k ∧ R.o = s.o ∧ R.ol = s.ol ∧ R.ot = s.ot ∧ R.r = s.r ∧ R.w = s.w ∧ R.b = s.b ∧ R.l = s.l) ∧ (∀ j : Nat, j ≠ 21 → R.i j = s.i j) ∧ R.i 21 = s.i 21 + 1 ∧ (∀ k : Nat, k ≠ 17 → R.a k = s.a k) ∧ R.a 17 = gPut (s.a 17) 1024 (s.i 21) (-1)
theorem q_newTarget (N : Nat) (s : CS) : ok (f_X0_newTarget N s) (fun R => NTG s R.2 ∧ R.1 = s.i 21) := by
  unfold f_X0_newTarget
  refine ok_some ⟨⟨⟨?_, ?_, ?_, ?_, ?_, ?_, ?_, ?_, ?_, ?_⟩, fun j hj => ?_, ?_, fun k q1 => ?_, ?_⟩, Int32.add_sub_cancel ..⟩
  · rw [chs_setI, chs_putA]
  · rw [cL_setI, cL_putA]
  · rw [ck_setI, ck_putA]
  · rw [co_setI, co_putA]
  · rw [col_setI, col_putA]
  · rw [cot_setI, cot_putA]
  · rw [cr_setI, cr_putA]
  · rw [cw_setI, cw_putA]
  · rw [cb_setI, cb_putA]
  · rw [cl_setI, cl_putA]
  · rw [ci_ne _ _ _ hj, ci_putA]
  · rw [ci_at]
  · rw [ca_setI, ca_ne _ _ _ q1]
  · rw [ca_setI, ca_put]
theorem GW.tg {cD c : List Nat} {X : List (Nat × List Nat)} {P : List Nat} {lim : List Int} {s R : CS} (h : GW cD c X P lim s) (hr : NTG s R) (ht : tcI s ≤ 1020) (d : List Nat) (kf : Prop) : ∃ (D DT : Nat → List Nat) (KT : Nat → Prop), CDT R D DT KT ∧ TGS R D DT ∧ UNA R KT ((tcI s).toNat :: P) ∧ (0 ≤ szI R ∧ D (szI R).toNat = cD ∧ D 0 = []) ∧ (∀ q ∈ X, (q.1 : Int) < tcI R ∧ DT q.1 = q.2 ∧ ¬ KT q.1) ∧ (∃ n : Nat, (n : Int) = cnI R ∧ n ≤ 400 ∧ RCH R DT KT n c lim) ∧ (∀ n : Nat, (n : Int) < nmI R → NMT (R.a 49 n) c) ∧ (0 ≤ tcI R ∧ lmh lim ≤ ccI R ∧ NMB R) ∧ tcI R = tcI s + 1 ∧ DT (tcI s).toNat = d ∧ (KT (tcI s).toNat ↔ kf) := by
  obtain ⟨D, DT, KT, h1, h2, h3, h4, h5, ⟨n, n1, n2, n3⟩, h7, h8⟩ := h
  obtain ⟨⟨b1, b2, b3, b4, b5, b6, b7, b8, b9, b10⟩, b11, b12, b13, b14⟩ := hr
  have e1 : (1 : Int32).toInt = 1 := by decide
  have em : (-1 : Int32).toInt = -1 := by decide
  have h9 := h8.2
  have h8 := h8.1
  have h8' : 0 ≤ (s.i 21).toInt := h8
  have ht' : (s.i 21).toInt ≤ 1020 := ht
  have etc : tcI R = tcI s + 1 := by
    show (R.i 21).toInt = (s.i 21).toInt + 1
    rw [b12, toInt_add] <;> rw [e1] <;> omega
  have esz : szI R = szI s := by unfold szI; rw [b11 20 (by decide)]
  have ecn : cnI R = cnI s := by unfold cnI; rw [b11 53 (by decide)]
  have enm : nmI R = nmI s := by unfold nmI; rw [b11 50 (by decide)]
  have eT : ((tcI s).toNat : Int) = tcI s := Int.toNat_of_nonneg h8
  obtain ⟨DT', hD⟩ : ∃ DT' : Nat → List Nat, DT' = fun t => if t = (tcI s).toNat then d else DT t := ⟨_, rfl⟩
  obtain ⟨KT', hK⟩ : ∃ KT' : Nat → Prop, KT' = fun t => (t = (tcI s).toNat ∧ kf) ∨ (t ≠ (tcI s).toNat ∧ KT t) := ⟨_, rfl⟩
  have dn : ∀ t : Nat, t ≠ (tcI s).toNat → DT' t = DT t ∧ (KT' t ↔ KT t) := fun t q => by
    rw [hD, hK]
    refine ⟨if_neg q, ⟨fun z => ?_, fun z => Or.inr ⟨q, z⟩⟩⟩
    rcases z with z | z
    · exact absurd z.1 q
    · exact z.2
  have d0 : DT' (tcI s).toNat = d := by rw [hD]; exact if_pos rfl
  have k0 : KT' (tcI s).toNat ↔ kf := by
    rw [hK]
    exact ⟨fun z => by
      rcases z with z | z
      · exact z.2
      · exact absurd rfl z.1, fun z => Or.inl ⟨rfl, z⟩⟩
  clear hD hK
  have lo : ∀ k : Nat, (k : Int) < tcI s → DT' k = DT k ∧ (KT' k ↔ KT k) := fun k q => dn k (by omega)
  have a17n : ∀ t : Nat, (t : Int) ≠ tcI s → R.a 17 t = s.a 17 t := fun t q => by rw [b14]; exact gPut_ne q
  have a17t : R.a 17 (tcI s).toNat = -1 := by rw [b14]; exact gPut_at eT (by omega)
  refine ⟨D, DT', KT', fun p p1 p2 => ?_, fun t q => ?_, fun t q1 q2 q3 => ?_, by rw [esz]; exact h4, fun q hq => ?_, ⟨n, by rw [ecn]; exact n1, n2, ?_⟩, by rw [enm, b13 49 (by decide)]; exact h7, ⟨by omega, by unfold ccI; rw [b11 22 (by decide)]; exact h9.1, h9.2.of ecn enm (fun i a _ e => by rw [b7] at e; exact ⟨e, by rw [b4]⟩)⟩, etc, d0, k0⟩
  · rw [esz] at p2
    have z := h1 p p1 p2
    rw [b13 15 (by decide), b13 16 (by decide)]
    exact ⟨z.1.mono (by omega) lo, z.2⟩
  · by_cases e : t = (tcI s).toNat
    · left; rw [e, a17t]; exact em
    · rw [a17n t (by omega), esz, (dn t e).1]
      exact h2 t (by omega)
  · by_cases e : t = (tcI s).toNat
    · left; rw [e]; exact List.mem_cons_self ..
    · rw [a17n t (by omega)] at q3
      rcases h3 t (by omega) (fun z => q2 ((dn t e).2.mpr z)) q3 with z | z
      · exact Or.inl (List.mem_cons_of_mem _ z)
      · exact Or.inr (z.of (by omega) (fun i a _ e => ⟨by rw [b7]; exact e, by rw [b4]⟩))
  · obtain ⟨z1, z2, z3⟩ := h5 q hq
    have y := lo q.1 z1
    exact ⟨by omega, by rw [y.1]; exact z2, fun w => z3 (y.2.mp w)⟩
  · refine n3.mono (by omega) lo (fun t q0 q => ?_) (fun i _ => ⟨by rw [b7], fun a _ => ⟨by rw [b4], by rw [b5]⟩⟩) (fun m _ => by rw [b13 19 (by decide)]) (fun _ _ _ _ m _ => by rw [b13 49 (by decide)]) n3.nr
    rw [a17n t (by omega)]; exact q
theorem GW.new {cD c : List Nat} {X : List (Nat × List Nat)} {P : List Nat} {lim : List Int} {s R : CS} (h : GW cD c X P lim s) (hr : NTG s R) (ht : tcI s ≤ 1020) (d : List Nat) : GW cD c (((tcI s).toNat, d) :: X) ((tcI s).toNat :: P) lim R := by
  have h8 : 0 ≤ tcI s := by
    obtain ⟨D, DT, KT, h1, h2, h3, h4, h5, h6, h7, h8⟩ := h
    exact h8.1
  obtain ⟨D, DT, KT, h1, h2, h3, h4, h5, h6, h7, h8', h9, h10, h11⟩ := h.tg hr ht d False
  refine ⟨D, DT, KT, h1, h2, h3, h4, fun q hq => ?_, h6, h7, h8'⟩
  rcases List.mem_cons.mp hq with e | e
  · rw [e]
    exact ⟨by show ((tcI s).toNat : Int) < tcI R; omega, h10, fun z => h11.mp z⟩
  · exact h5 q e
/-- a target gets its place -/
def AIM (s R : CS) (t : Int32) : Prop := (R.hs = s.hs ∧ R.L = s.L ∧ R.k = s.k ∧ R.o = s.o ∧ R.ol = s.ol ∧ R.ot = s.ot ∧ R.r = s.r ∧ R.w = s.w ∧ R.b = s.b ∧ R.l = s.l) ∧ R.i = s.i ∧ (∀ k : Nat, k ≠ 17 → R.a k = s.a k) ∧ R.a 17 = gPut (s.a 17) 1024 t (s.i 20)
theorem q_aim (N : Nat) (s : CS) (t : Int32) : ok (f_X0_aim N s t) (fun R => AIM s R.2 t) := by
  unfold f_X0_aim
  exact ok_some ⟨⟨chs_putA .., cL_putA .., ck_putA .., co_putA .., col_putA .., cot_putA .., cr_putA .., cw_putA .., cb_putA .., cl_putA ..⟩, ci_putA .., fun k q => ca_ne _ _ _ q, ca_put ..⟩
theorem GW.aim {cD c : List Nat} {X : List (Nat × List Nat)} {P P' : List Nat} {lim : List Int} {s R : CS} {t : Int32} (h : GW cD c X P lim s) (ha : AIM s R t) (ht : tcI s ≤ 1024) (hT : ∀ (DT : Nat → List Nat) (KT : Nat → Prop), (∀ q ∈ X, (q.1 : Int) < tcI s ∧ DT q.1 = q.2 ∧ ¬ KT q.1) → (∀ n : Nat, (n : Int) = cnI s → RCH s DT KT n c lim) → 0 ≤ t.toInt ∧ t.toInt < tcI s ∧ DT t.toInt.toNat = cD) (hP : ∀ k ∈ P, k ∈ P' ∨ (k : Int) = t.toInt) : GW cD c X P' lim R := by
  obtain ⟨D, DT, KT, h1, h2, h3, h4, h5, ⟨n, n1, n2, n3⟩, h7, h8⟩ := h
  obtain ⟨⟨b1, b2, b3, b4, b5, b6, b7, b8, b9, b10⟩, b11, b13, b14⟩ := ha
  have nn' : ∀ m : Nat, (m : Int) = cnI s → RCH s DT KT m c lim := fun m hm => by
    have e : m = n := by omega
    rw [e]
    exact n3
  obtain ⟨t0, t1, t2⟩ := hT DT KT h5 nn'
  have etc : tcI R = tcI s := by unfold tcI; rw [b11]
  have esz : szI R = szI s := by unfold szI; rw [b11]
  have ecn : cnI R = cnI s := by unfold cnI; rw [b11]
  have enm : nmI R = nmI s := by unfold nmI; rw [b11]
  have a17n : ∀ k : Nat, (k : Int) ≠ t.toInt → R.a 17 k = s.a 17 k := fun k q => by rw [b14]; exact gPut_ne q
  have a17t : ∀ k : Nat, (k : Int) = t.toInt → R.a 17 k = s.i 20 := fun k q => by rw [b14]; exact gPut_at q (by omega)
  have h40 : 0 ≤ (s.i 20).toInt := h4.1
  refine ⟨D, DT, KT, fun p p1 p2 => ?_, fun k q => ?_, fun k q1 q2 q3 => ?_, by rw [esz]; exact h4, by rw [etc]; exact h5, ⟨n, by rw [ecn]; exact n1, n2, ?_⟩, by rw [enm, b13 49 (by decide)]; exact h7, by rw [etc]; exact h8.1, by unfold ccI; rw [b11]; exact h8.2.1, h8.2.2.of ecn enm (fun i a _ e => by rw [b7] at e; exact ⟨e, by rw [b4]⟩)⟩
  · rw [esz] at p2
    rw [b13 15 (by decide), b13 16 (by decide), etc]
    exact h1 p p1 p2
  · rw [etc] at q
    by_cases e : (k : Int) = t.toInt
    · rw [a17t k e, esz]
      have ek : k = t.toInt.toNat := by omega
      refine Or.inr ⟨h40, Int.le_refl _, ?_⟩
      rw [ek, t2]
      exact h4.2.1
    · rw [a17n k e, esz]; exact h2 k q
  · rw [etc] at q1
    by_cases e : (k : Int) = t.toInt
    · rw [a17t k e] at q3; omega
    · rw [a17n k e] at q3
      rcases h3 k q1 q2 q3 with z | z
      · rcases hP k z with y | y
        · exact Or.inl y
        · exact absurd y e
      · exact Or.inr (z.of (by omega) (fun i a _ e => ⟨by rw [b7]; exact e, by rw [b4]⟩))
  · refine n3.mono (by omega) (fun _ _ => ⟨rfl, Iff.rfl⟩) (fun k _ q => ?_) (fun i _ => ⟨by rw [b7], fun a _ => ⟨by rw [b4], by rw [b5]⟩⟩) (fun m _ => by rw [b13 19 (by decide)]) (fun _ _ _ _ m _ => by rw [b13 49 (by decide)]) n3.nr
    by_cases e : (k : Int) = t.toInt
    · rw [a17t k e]; exact h40
    · rw [a17n k e]; exact q
