/-! the class's machine: frames -/
noncomputable def EN (X : CS) (x1 x2 x3 : Int32) (a : Nat) : CS := CS.setI (CS.setOt (CS.setO (CS.setO (CS.setO (CS.setO X a 0 x1) a 1 x2) a 2 (X.i 65)) a 3 (X.i 68)) a none) 67 (x3 + 1)
theorem EN.ne {X : CS} {x1 x2 x3 : Int32} {a j : Nat} (h : j ≠ 67) : (EN X x1 x2 x3 a).i j = X.i j := by
  unfold EN
  rw [ci_ne _ _ _ h, ci_setOt, ci_setO, ci_setO, ci_setO, ci_setO]
theorem EN.i67 {X : CS} {x1 x2 x3 : Int32} {a : Nat} : (EN X x1 x2 x3 a).i 67 = x3 + 1 := by
  unfold EN
  rw [ci_at]
theorem EN.q {X : CS} {x1 x2 x3 : Int32} {a : Nat} : (EN X x1 x2 x3 a).a = X.a ∧ (EN X x1 x2 x3 a).b = X.b ∧ (EN X x1 x2 x3 a).l = X.l ∧ (EN X x1 x2 x3 a).r = X.r ∧ (EN X x1 x2 x3 a).w = X.w ∧ (EN X x1 x2 x3 a).hs = X.hs ∧ (EN X x1 x2 x3 a).L = X.L ∧ (EN X x1 x2 x3 a).k = X.k ∧ (EN X x1 x2 x3 a).ol = X.ol := by
  unfold EN
  rw [ca_setI, ca_setOt, ca_setO, ca_setO, ca_setO, ca_setO, cb_setI, cb_setOt, cb_setO, cb_setO, cb_setO, cb_setO, cl_setI, cl_setOt, cl_setO, cl_setO, cl_setO, cl_setO, cr_setI, cr_setOt, cr_setO, cr_setO, cr_setO, cr_setO, cw_setI, cw_setOt, cw_setO, cw_setO, cw_setO, cw_setO, chs_setI, chs_setOt, chs_setO, chs_setO, chs_setO, chs_setO, cL_setI, cL_setOt, cL_setO, cL_setO, cL_setO, cL_setO, ck_setI, ck_setOt, ck_setO, ck_setO, ck_setO, ck_setO, col_setI, col_setOt, col_setO, col_setO, col_setO, col_setO]
  exact ⟨rfl, rfl, rfl, rfl, rfl, rfl, rfl, rfl, rfl⟩
theorem EN.o {X : CS} {x1 x2 x3 : Int32} {a x : Nat} (h : x ≠ a) : (EN X x1 x2 x3 a).o x = X.o x ∧ (EN X x1 x2 x3 a).ot x = X.ot x := by
  unfold EN
  rw [co_setI, co_setOt, setO_ne h, setO_ne h, setO_ne h, setO_ne h, cot_setI, cot_ne _ _ _ h, cot_setO, cot_setO, cot_setO, cot_setO]
  exact ⟨rfl, rfl⟩
theorem EN.oa {X : CS} {x1 x2 x3 : Int32} {a : Nat} : (EN X x1 x2 x3 a).o a 0 = x1 ∧ (EN X x1 x2 x3 a).o a 1 = x2 ∧ (EN X x1 x2 x3 a).o a 3 = X.i 68 ∧ (EN X x1 x2 x3 a).ot a = none := by
  unfold EN
  rw [co_setI, co_setOt, cot_setI, cot_at]
  rw [setO_k (by decide), setO_k (by decide), setO_k (by decide), setO_at]
  rw [setO_k (by decide), setO_k (by decide), setO_at]
  rw [setO_at]
  exact ⟨rfl, rfl, rfl, rfl⟩
/-- how a frame is entered once its cell is there -/
theorem EN.in {H : Nat} {X : CS} {D : Nat → List Nat} {k : Int} {c : List Nat} {ph a : Nat} {x1 x2 x3 : Int32} (hr : REFS X) (hm : ROOM H X) (hl : c.length ≤ 21) (hf : FRM X D k c) (hh : HLD X c) (h68 : 0 ≤ (X.i 68).toInt ∧ (X.i 68).toInt ≤ k) (hx : x1.toInt = (ph : Int)) (hp : ph = 0 ∨ ph = 1 ∧ HND X D x2 c) (ha : X.r 61 c.length = some a) : REFS (EN X x1 x2 x3 a) ∧ ROOM H (EN X x1 x2 x3 a) ∧ MR X (EN X x1 x2 x3 a) ∧ FRM (EN X x1 x2 x3 a) D k (ph :: c) ∧ HLD (EN X x1 x2 x3 a) (ph :: c) := by
  obtain ⟨e1, e2, e3, e4, e5, e6, e7, e8, e9⟩ := EN.q (X := X) (x1 := x1) (x2 := x2) (x3 := x3) (a := a)
  obtain ⟨f1, f2, f3, f4⟩ := EN.oa (X := X) (x1 := x1) (x2 := x2) (x3 := x3) (a := a)
  have ei : ∀ j : Nat, j ≠ 67 → (EN X x1 x2 x3 a).i j = X.i j := fun j h => EN.ne h
  have eo : ∀ x : Nat, x ≠ a → (EN X x1 x2 x3 a).o x = X.o x ∧ (EN X x1 x2 x3 a).ot x = X.ot x := fun x h => EN.o h
  generalize EN X x1 x2 x3 a = T at *
  have okT : ∀ {x t : Nat}, oK X x t → oK T x t := fun {x t} h => by unfold oK at *; rw [e7, e8]; exact h
  have ceq : CEQ X T := ⟨by rw [e1], by rw [e1], by rw [e1], ei 20 (by decide)⟩
  have a1 := hr.2.2.2.1 c.length a (by omega) ha
  obtain ⟨h1, h2, h3, h4, h5, h6, h7, h8, h9⟩ := hr
  have nea : ∀ i a' : Nat, i < c.length → X.r 61 i = some a' → a' ≠ a := fun i a' hi e q => by
    rw [q] at e
    have := h5 i c.length a (by omega) (by omega) e ha
    omega
  refine ⟨⟨by rw [e7, e6]; exact h1, fun i x hi e => okT (h2 i x hi (by rw [← e4]; exact e)), by rw [e4]; exact h3, fun i x hi e => okT (h4 i x hi (by rw [← e4]; exact e)), by rw [e4]; exact h5, fun i x hi e => ?_, by rw [e4]; exact h7, fun i x b hi q1 q2 => ?_, fun b e => ?_⟩, ?_, ⟨fun j hj => ei j (by omega), fun _ _ => by rw [e1], e2, e3, by rw [e4], fun x hx => ⟨okT hx, (eo x (fun q => ?_)).1, by rw [e9]⟩⟩, ⟨⟨a, by rw [e4]; exact ha, okT a1, by rw [f1]; exact hx, ?_⟩, ?_⟩, ⟨fun q => ?_, ?_⟩⟩
  · have := h6 i x hi (by rw [← e4]; exact e)
    exact ⟨okT this.1, okT this.2.1, okT this.2.2⟩
  · rw [e4] at q1
    by_cases q : x = a
    · rw [q, f4] at q2; cases q2
    · rw [(eo x q).2] at q2
      unfold inP; rw [e4]; exact h8 i x b hi q1 q2
  · rw [e5] at e
    unfold inP; rw [e4]; exact h9 b e
  · unfold ROOM at *; rw [e6, e4]; exact hm
  · rw [q] at hx; have := hx.2; rw [a1.2] at this; omega
  · refine ⟨by rw [f3]; exact h68, fun q => ?_, fun q => ?_⟩
    · rcases hp with hp | ⟨hp, hq⟩
      · omega
      · rw [f2, ceq.hn]; exact hq
    · rcases hp with hp | ⟨hp, hq⟩ <;> omega
  · exact hf.of ceq (Int.le_refl _) (fun i a' hi e => ⟨by rw [e4]; exact e, fun q => okT q, (eo a' (nea i a' hi e)).1, (eo a' (nea i a' hi e)).2⟩)
  · rcases hp with hp | ⟨hp, hq⟩ <;> omega
  · exact hh.of (fun i a' hi e => ⟨by rw [e4]; exact e, fun q => by rw [(eo a' (nea i a' hi e)).2]; exact q⟩)
/-- a new cell for a frame -/
noncomputable def FNW (s : CS) (m : Nat) : CS := CS.setR (CS.new s 1) 61 m (some s.hs)
theorem FNW.in {H : Nat} {s : CS} (hr : REFS s) (hm : ROOM H s) {m : Nat} (h24 : m < 24) (hn : s.r 61 m = none) : REFS (FNW s m) ∧ ROOM H (FNW s m) ∧ MR s (FNW s m) ∧ FK s (FNW s m) ∧ ((FNW s m).i = s.i ∧ (FNW s m).a = s.a ∧ (FNW s m).w = s.w) ∧ (FNW s m).r 61 m = some s.hs ∧ (∀ j : Nat, j ≠ m → (FNW s m).r 61 j = s.r 61 j) := by
  have vL : (FNW s m).L = s.L ++ [s.hs] := by unfold FNW; rw [cL_setR, cL_new]
  have vh : (FNW s m).hs = s.hs + 1 := by unfold FNW; rw [chs_setR, chs_new]
  have vk : (FNW s m).k = va_up s.k s.hs 1 := by unfold FNW; rw [ck_setR, ck_new]
  have v51 : (FNW s m).r 51 = s.r 51 := by unfold FNW; rw [cr_ne _ _ _ _ (by decide), cr_new]
  have v62 : (FNW s m).r 62 = s.r 62 := by unfold FNW; rw [cr_ne _ _ _ _ (by decide), cr_new]
  have v61 : (FNW s m).r 61 = va_up (s.r 61) m (some s.hs) := by unfold FNW; rw [cr_at, cr_new]
  have vi : (FNW s m).i = s.i := by unfold FNW; rw [ci_setR, ci_new]
  have va : (FNW s m).a = s.a := by unfold FNW; rw [ca_setR, ca_new]
  have vb : (FNW s m).b = s.b := by unfold FNW; rw [cb_setR, cb_new]
  have vl : (FNW s m).l = s.l := by unfold FNW; rw [cl_setR, cl_new]
  have vw : (FNW s m).w = s.w := by unfold FNW; rw [cw_setR, cw_new]
  have vo : ∀ x : Nat, x ≠ s.hs → (FNW s m).o x = s.o x ∧ (FNW s m).ol x = s.ol x ∧ (FNW s m).ot x = s.ot x := fun x hx => by
    unfold FNW; rw [co_setR, co_new _ _ hx, col_setR, col_new _ _ hx, cot_setR, cot_new _ _ hx]; exact ⟨rfl, rfl, rfl⟩
  have voh : (FNW s m).ot s.hs = none := by unfold FNW; rw [cot_setR]; exact if_pos rfl
  generalize FNW s m = V at *
  obtain ⟨h1, h2, h3, h4, h5, h6, h7, h8, h9⟩ := hr
  have lt : ∀ {x t : Nat}, oK s x t → x < s.hs := fun {x t} hx => h1 x hx.1
  have okm : ∀ {x t : Nat}, oK s x t → oK V x t := fun {x t} hx => by
    refine ⟨by rw [vL]; exact List.mem_append_left _ hx.1, ?_⟩
    rw [vk]
    have := lt hx
    exact (if_neg (by omega)).trans hx.2
  have okn : oK V s.hs 1 := ⟨by rw [vL]; exact List.mem_append_right _ (List.mem_singleton.mpr rfl), by rw [vk]; exact if_pos rfl⟩
  have v61m : V.r 61 m = some s.hs := by rw [v61]; exact if_pos rfl
  have v61n : ∀ j : Nat, j ≠ m → V.r 61 j = s.r 61 j := fun j hj => by rw [v61]; exact if_neg hj
  refine ⟨⟨fun x hx => ?_, fun i a hi e => okm (h2 i a hi (by rw [← v51]; exact e)), by rw [v51]; exact h3, fun i a hi e => ?_, fun i j a hi hj e1 e2 => ?_, fun i a hi e => ?_, by rw [v62]; exact h7, fun i a b hi e1 e2 => ?_, fun b e => ?_⟩, ?_, ⟨fun _ _ => by rw [vi], fun _ _ => by rw [va], vb, vl, v51, fun x hx => ?_⟩, fun x hx => ?_, ⟨vi, va, vw⟩, v61m, v61n⟩
  · rw [vL] at hx
    rw [vh]
    rcases List.mem_append.mp hx with hx | hx
    · have := h1 x hx; omega
    · have := List.mem_singleton.mp hx; omega
  · by_cases c : i = m
    · rw [c, v61m] at e; cases e; exact okn
    · rw [v61n i c] at e; exact okm (h4 i a hi e)
  · by_cases c : i = m
    · by_cases c' : j = m
      · omega
      · rw [c, v61m] at e1
        rw [v61n j c'] at e2
        cases e1
        have := lt (h4 j _ hj e2); omega
    · by_cases c' : j = m
      · rw [c', v61m] at e2
        rw [v61n i c] at e1
        cases e2
        have := lt (h4 i _ hi e1); omega
      · rw [v61n i c] at e1
        rw [v61n j c'] at e2
        exact h5 i j a hi hj e1 e2
  · have := h6 i a hi (by rw [← v62]; exact e)
    exact ⟨okm this.1, okm this.2.1, okm this.2.2⟩
  · by_cases c : i = m
    · rw [c, v61m] at e1; cases e1; rw [voh] at e2; cases e2
    · rw [v61n i c] at e1
      have ha := lt (h4 i a hi e1)
      rw [(vo a (by omega)).2.2] at e2
      unfold inP; rw [v62]; exact h8 i a b hi e1 e2
  · rw [vw] at e
    unfold inP; rw [v62]; exact h9 b e
  · unfold ROOM at *
    rw [vh, v51, v61, v62]
    have := nn.put (a := s.hs) hn (n := 24) h24
    omega
  · have := lt hx
    have q := vo x (by omega)
    exact ⟨okm hx, q.1, q.2.1⟩
  · have := lt hx
    have q := vo x (by omega)
    exact ⟨okm hx, q.1, q.2.2⟩
theorem q_enter {N H : Nat} {s : CS} {D : Nat → List Nat} {k : Int} {c : List Nat} {ph : Nat} {x1 x2 : Int32} (hr : REFS s) (hm : ROOM H s) (hl : (c.length : Int) = dpI s) (h21 : c.length ≤ 21) (hf : FRM s D k c) (hh : HLD s c) (h68 : 0 ≤ (s.i 68).toInt ∧ (s.i 68).toInt ≤ k) (hx : x1.toInt = (ph : Int)) (hp : ph = 0 ∨ ph = 1 ∧ HND s D x2 c) : ok (f_X3_enter N s x1 x2) (fun R => REFS R.2 ∧ ROOM H R.2 ∧ MR s R.2 ∧ (∀ j : Nat, j ≠ 67 → R.2.i j = s.i j) ∧ R.2.w = s.w ∧ dpI R.2 = dpI s + 1 ∧ FRM R.2 D k (ph :: c) ∧ HLD R.2 (ph :: c)) := by
  unfold f_X3_enter
  have e23 : (23 : Int32).toInt = 23 := by decide
  have e1 : (1 : Int32).toInt = 1 := by decide
  have hl' : (s.i 67).toInt = (c.length : Int) := hl.symm
  have c23 : ¬ (23 : Int32) < s.i 67 := fun q => by have := lt_int q; omega
  have hib : ib (s.i 67) 24 := ⟨by omega, by omega⟩
  have cn : (s.i 67).toNatClampNeg = c.length := by
    have := clampI (k := s.i 67) (by omega)
    omega
  rw [if_neg c23, if_pos hib, cn]
  have es : (s.i 67 + 1).toInt = (s.i 67).toInt + 1 := by rw [toInt_add] <;> rw [e1] <;> omega
  have fin : ∀ (X : CS) (a : Nat), REFS X → ROOM H X → MR s X → X.i = s.i → X.w = s.w → FRM X D k c → HLD X c → X.r 61 c.length = some a → CEQ s X → ok (f_X3_enter_45 N X x1 x2 (s.i 67) a) (fun R => REFS R.2 ∧ ROOM H R.2 ∧ MR s R.2 ∧ (∀ j : Nat, j ≠ 67 → R.2.i j = s.i j) ∧ R.2.w = s.w ∧ dpI R.2 = dpI s + 1 ∧ FRM R.2 D k (ph :: c) ∧ HLD R.2 (ph :: c)) := fun X a q1 q2 q3 q4 q5 q6 q7 q8 q9 => by
    unfold f_X3_enter_45
    rw [if_pos (q1.2.2.2.1 c.length a (by omega) q8)]
    have hp' : ph = 0 ∨ ph = 1 ∧ HND X D x2 c := by rw [q9.hn]; exact hp
    have r := EN.in (x3 := s.i 67) q1 q2 h21 q6 q7 (by rw [q4]; exact h68) hx hp' q8
    refine ok_some ⟨r.1, r.2.1, q3.tr r.2.2.1, fun j hj => ?_, ?_, ?_, r.2.2.2.1, r.2.2.2.2⟩
    · show (EN X x1 x2 (s.i 67) a).i j = s.i j
      rw [EN.ne hj, q4]
    · show (EN X x1 x2 (s.i 67) a).w = s.w
      rw [EN.q.2.2.2.2.1, q5]
    · show ((EN X x1 x2 (s.i 67) a).i 67).toInt = (s.i 67).toInt + 1
      rw [EN.i67, es]
  cases hc : s.r 61 c.length with
  | none =>
    show ok ((f_X2_init N (CS.new s 1) (CS.hs s)).bind fun p5 => if ib (s.i 67) 24 then if oK p5.2 (CS.hs s) 1 then f_X3_enter_45 N (CS.setR p5.2 61 c.length (some (CS.hs s))) x1 x2 (s.i 67) (CS.hs s) else none else none) _
    unfold f_X2_init
    show ok (if ib (s.i 67) 24 then if oK (CS.new s 1) (CS.hs s) 1 then f_X3_enter_45 N (FNW s c.length) x1 x2 (s.i 67) (CS.hs s) else none else none) _
    have okn : oK (CS.new s 1) (CS.hs s) 1 := ⟨by rw [cL_new]; exact List.mem_append_right _ (List.mem_singleton.mpr rfl), by rw [ck_new]; exact if_pos rfl⟩
    rw [if_pos hib, if_pos okn]
    obtain ⟨a1, a2, a3, a4, ⟨a5, a6, a7⟩, a8, a9⟩ := FNW.in hr hm (m := c.length) (by omega) hc
    have fk : ∀ i a : Nat, i < c.length → s.r 61 i = some a → (FNW s c.length).r 61 i = some a ∧ (oK s a 1 → oK (FNW s c.length) a 1) ∧ (FNW s c.length).o a = s.o a ∧ (FNW s c.length).ot a = s.ot a := fun i a hi e => by
      have q := a4 a (hr.2.2.2.1 i a (by omega) e)
      exact ⟨by rw [a9 i (by omega)]; exact e, fun _ => q.1, q.2.1, q.2.2⟩
    exact fin _ _ a1 a2 a3 a5 a7 (hf.of a3.ceq (Int.le_refl _) fk) (hh.of (fun i a hi e => ⟨(fk i a hi e).1, fun q => by rw [(fk i a hi e).2.2.2]; exact q⟩)) a8 a3.ceq
  | some a =>
    exact fin s a hr hm (MR.rf s) rfl rfl hf hh hc ⟨rfl, rfl, rfl, rfl⟩
