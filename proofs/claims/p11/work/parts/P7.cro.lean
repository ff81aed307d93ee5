/-! the class's reading: a row more, a row less -/
/-- only one row's cell is other -/
def OUV (s R : CS) (a : Nat) (g : Nat → Int32) (l : Int64) : Prop := (R.hs = s.hs ∧ R.L = s.L ∧ R.k = s.k ∧ R.ot = s.ot ∧ R.r = s.r ∧ R.w = s.w ∧ R.b = s.b ∧ R.l = s.l ∧ R.a = s.a ∧ R.i = s.i) ∧ (∀ x : Nat, x ≠ a → R.o x = s.o x ∧ R.ol x = s.ol x) ∧ R.o a = g ∧ R.ol a = l
theorem OUV.rf (s : CS) (a : Nat) : OUV s s a (s.o a) (s.ol a) := ⟨⟨rfl, rfl, rfl, rfl, rfl, rfl, rfl, rfl, rfl, rfl⟩, fun _ _ => ⟨rfl, rfl⟩, rfl, rfl⟩
theorem OUV.o {s R : CS} {a : Nat} {g : Nat → Int32} {l : Int64} (h : OUV s R a g l) (k : Nat) (v : Int32) : OUV s (CS.setO R a k v) a (upd g k v) l := by
  obtain ⟨⟨a1, a2, a3, a4, a5, a6, a7, a8, a9, a10⟩, a11, a12, a13⟩ := h
  refine ⟨⟨(chs_setO ..).trans a1, (cL_setO ..).trans a2, (ck_setO ..).trans a3, (cot_setO ..).trans a4, (cr_setO ..).trans a5, (cw_setO ..).trans a6, (cb_setO ..).trans a7, (cl_setO ..).trans a8, (ca_setO ..).trans a9, (ci_setO ..).trans a10⟩, fun x hx => ⟨?_, ?_⟩, ?_, ?_⟩
  · exact (show (CS.setO R a k v).o x = R.o x from if_neg hx).trans (a11 x hx).1
  · rw [col_setO]; exact (a11 x hx).2
  · rw [← a12]; exact (if_pos rfl)
  · rw [col_setO]; exact a13
theorem OUV.l {s R : CS} {a : Nat} {g : Nat → Int32} {l : Int64} (h : OUV s R a g l) (v : Int64) : OUV s (CS.setOl R a v) a g v := by
  obtain ⟨⟨a1, a2, a3, a4, a5, a6, a7, a8, a9, a10⟩, a11, a12, a13⟩ := h
  refine ⟨⟨(chs_setOl ..).trans a1, (cL_setOl ..).trans a2, (ck_setOl ..).trans a3, (cot_setOl ..).trans a4, (cr_setOl ..).trans a5, (cw_setOl ..).trans a6, (cb_setOl ..).trans a7, (cl_setOl ..).trans a8, (ca_setOl ..).trans a9, (ci_setOl ..).trans a10⟩, fun x hx => ⟨?_, ?_⟩, ?_, ?_⟩
  · rw [co_setOl]; exact (a11 x hx).1
  · exact (show (CS.setOl R a v).ol x = R.ol x from if_neg hx).trans (a11 x hx).2
  · rw [co_setOl]; exact a12
  · exact if_pos rfl
/-- a new cell for a row -/
noncomputable def ONW (s : CS) (m : Nat) : CS := CS.setR (CS.new s 0) 51 m (some s.hs)
theorem ONW.in {H : Nat} {s : CS} (hr : REFS s) (hm : ROOM H s) {m : Nat} (h40 : m < 400) (hn : s.r 51 m = none) : REFS (ONW s m) ∧ ROOM H (ONW s m) ∧ ((ONW s m).i = s.i ∧ (ONW s m).a = s.a ∧ (ONW s m).b = s.b ∧ (ONW s m).l = s.l ∧ (ONW s m).w = s.w) ∧ (ONW s m).r 51 m = some s.hs ∧ (∀ j : Nat, j ≠ m → (ONW s m).r 51 j = s.r 51 j) ∧ (∀ x : Nat, x ≠ s.hs → (ONW s m).o x = s.o x ∧ (ONW s m).ol x = s.ol x) ∧ oK (ONW s m) s.hs 0 := by
  have vL : (ONW s m).L = s.L ++ [s.hs] := by unfold ONW; rw [cL_setR, cL_new]
  have vh : (ONW s m).hs = s.hs + 1 := by unfold ONW; rw [chs_setR, chs_new]
  have vk : (ONW s m).k = va_up s.k s.hs 0 := by unfold ONW; rw [ck_setR, ck_new]
  have v61 : (ONW s m).r 61 = s.r 61 := by unfold ONW; rw [cr_ne _ _ _ _ (by decide), cr_new]
  have v62 : (ONW s m).r 62 = s.r 62 := by unfold ONW; rw [cr_ne _ _ _ _ (by decide), cr_new]
  have v51 : (ONW s m).r 51 = va_up (s.r 51) m (some s.hs) := by unfold ONW; rw [cr_at, cr_new]
  have vi : (ONW s m).i = s.i := by unfold ONW; rw [ci_setR, ci_new]
  have va : (ONW s m).a = s.a := by unfold ONW; rw [ca_setR, ca_new]
  have vb : (ONW s m).b = s.b := by unfold ONW; rw [cb_setR, cb_new]
  have vl : (ONW s m).l = s.l := by unfold ONW; rw [cl_setR, cl_new]
  have vw : (ONW s m).w = s.w := by unfold ONW; rw [cw_setR, cw_new]
  have vo : ∀ x : Nat, x ≠ s.hs → (ONW s m).o x = s.o x ∧ (ONW s m).ol x = s.ol x ∧ (ONW s m).ot x = s.ot x := fun x hx => by
    unfold ONW; rw [co_setR, co_new _ _ hx, col_setR, col_new _ _ hx, cot_setR, cot_new _ _ hx]; exact ⟨rfl, rfl, rfl⟩
  generalize ONW s m = V at *
  obtain ⟨h1, h2, h3, h4, h5, h6, h7, h8, h9⟩ := hr
  have lt : ∀ {x t : Nat}, oK s x t → x < s.hs := fun {x t} hx => h1 x hx.1
  have okm : ∀ {x t : Nat}, oK s x t → oK V x t := fun {x t} hx => by
    refine ⟨by rw [vL]; exact List.mem_append_left _ hx.1, ?_⟩
    rw [vk]
    have := lt hx
    exact (if_neg (by omega)).trans hx.2
  have okn : oK V s.hs 0 := ⟨by rw [vL]; exact List.mem_append_right _ (List.mem_singleton.mpr rfl), by rw [vk]; exact if_pos rfl⟩
  have v51m : V.r 51 m = some s.hs := by rw [v51]; exact if_pos rfl
  have v51n : ∀ j : Nat, j ≠ m → V.r 51 j = s.r 51 j := fun j hj => by rw [v51]; exact if_neg hj
  refine ⟨⟨fun x hx => ?_, fun i a hi e => ?_, fun i j a hi hj e1 e2 => ?_, fun i a hi e => okm (h4 i a hi (by rw [← v61]; exact e)), by rw [v61]; exact h5, fun i a hi e => ?_, by rw [v62]; exact h7, fun i a b hi e1 e2 => ?_, fun b e => ?_⟩, ?_, ⟨vi, va, vb, vl, vw⟩, v51m, v51n, fun x hx => ⟨(vo x hx).1, (vo x hx).2.1⟩, okn⟩
  · rw [vL] at hx
    rw [vh]
    rcases List.mem_append.mp hx with hx | hx
    · have := h1 x hx; omega
    · have := List.mem_singleton.mp hx; omega
  · by_cases c : i = m
    · rw [c, v51m] at e; cases e; exact okn
    · rw [v51n i c] at e; exact okm (h2 i a hi e)
  · by_cases c : i = m
    · by_cases c' : j = m
      · omega
      · rw [c, v51m] at e1
        rw [v51n j c'] at e2
        cases e1
        have := lt (h2 j _ hj e2); omega
    · by_cases c' : j = m
      · rw [c', v51m] at e2
        rw [v51n i c] at e1
        cases e2
        have := lt (h2 i _ hi e1); omega
      · rw [v51n i c] at e1
        rw [v51n j c'] at e2
        exact h3 i j a hi hj e1 e2
  · have := h6 i a hi (by rw [← v62]; exact e)
    exact ⟨okm this.1, okm this.2.1, okm this.2.2⟩
  · rw [v61] at e1
    have ha := lt (h4 i a hi e1)
    rw [(vo a (by omega)).2.2] at e2
    unfold inP; rw [v62]; exact h8 i a b hi e1 e2
  · rw [vw] at e
    unfold inP; rw [v62]; exact h9 b e
  · unfold ROOM at *
    rw [vh, v51, v61, v62]
    have := nn.put (a := s.hs) hn (n := 400) h40
    omega
