/-! the class's machine: values, notes, the pool of exceptions -/
def PQ (s R : CS) : Prop := PV s R ∧ R.i 66 = s.i 66
theorem PQ.rf (s : CS) : PQ s s := ⟨PV.rf s, rfl⟩
theorem PQ.tr {s R T : CS} (h : PQ s R) (g : PQ R T) : PQ s T := ⟨h.1.tr g.1, g.2.trans h.2⟩
theorem q_push (N : Nat) (s : CS) (x : Int32) : ok (f_X3_push N s x) (fun R => PQ s R.2) := ok_some ⟨((PV.rf s).a 60 _ (by decide)).i 65 _ (by decide), rfl⟩
theorem q_pop (N : Nat) (s : CS) : ok (f_X3_pop N s) (fun R => PQ s R.2) := ok_some ⟨(PV.rf s).i 65 _ (by decide), rfl⟩
theorem q_note (N : Nat) (s : CS) (x y : Int32) : ok (f_X3_note N s x y) (fun R => PQ s R.2) := by
  unfold f_X3_note
  exact ok_ite (fun _ => ok_some (PQ.rf s)) (fun _ => ok_some ⟨(((PV.rf s).a 64 _ (by decide)).a 64 _ (by decide)).i 69 _ (by decide), rfl⟩)
theorem q_pp {N : Nat} {s R : CS} {x : Int32} (h : PQ s R) : ok ((f_X3_push N R x).bind fun p => some ((), p.2)) (fun R => PQ s R.2) := ok_bind (q_push N R x) (fun p hp => ok_some (h.tr hp))
theorem q_move (N : Nat) (s : CS) (x y : Int32) : ok (f_X3_move N s x y) (fun R => PQ s R.2) := by
  unfold f_X3_move
  refine ok_ite (fun _ => q_pp (PQ.rf s)) (fun _ => ok_ite (fun _ => q_pp (PQ.rf s)) (fun _ => ok_ite (fun _ => ?_) (fun _ => ok_ite (fun _ => ?_) (fun _ => ok_ite (fun _ => ?_) (fun _ => ok_ite (fun _ => ?_) (fun _ => ?_))))))
  · exact ok_bind (q_pop N s) (fun p hp => ok_some ⟨hp.1.a 59 _ (by decide), hp.2⟩)
  · exact ok_some ⟨(PV.rf s).a 59 _ (by decide), rfl⟩
  · exact ok_bind (q_pop N s) (fun p hp => q_pp hp)
  · exact ok_bind (q_pop N s) (fun p hp => q_pp hp)
  · exact ok_bind (q_pop N s) (fun p hp => ok_some hp)
theorem q_compares (N : Nat) (s : CS) (x y z : Int32) : ok (f_X3_compares N s x y z) (fun R => R.2 = s) := by
  unfold f_X3_compares
  have b : ∀ (c : Prop) [Decidable c] (u v : Int32), ok (if c then some (u, s) else some (v, s)) (fun R => R.2 = s) := fun c _ u v => ok_ite (fun _ => ok_some rfl) (fun _ => ok_some rfl)
  exact ok_ite (fun _ => b _ _ _) (fun _ => ok_ite (fun _ => b _ _ _) (fun _ => ok_ite (fun _ => b _ _ _) (fun _ => ok_ite (fun _ => b _ _ _) (fun _ => ok_ite (fun _ => b _ _ _) (fun _ => b _ _ _)))))
/-- what the machine leaves as it is: all of the reading -/
def MR (s R : CS) : Prop := (∀ j : Nat, j < 59 → R.i j = s.i j) ∧ (∀ k : Nat, k < 59 → R.a k = s.a k) ∧ R.b = s.b ∧ R.l = s.l ∧ R.r 51 = s.r 51 ∧ (∀ x : Nat, oK s x 0 → oK R x 0 ∧ R.o x = s.o x ∧ R.ol x = s.ol x)
theorem MR.rf (s : CS) : MR s s := ⟨fun _ _ => rfl, fun _ _ => rfl, rfl, rfl, rfl, fun _ h => ⟨h, rfl, rfl⟩⟩
theorem MR.tr {s R T : CS} (h : MR s R) (g : MR R T) : MR s T := ⟨fun j hj => (g.1 j hj).trans (h.1 j hj), fun k hk => (g.2.1 k hk).trans (h.2.1 k hk), g.2.2.1.trans h.2.2.1, g.2.2.2.1.trans h.2.2.2.1, g.2.2.2.2.1.trans h.2.2.2.2.1, fun x hx => ⟨(g.2.2.2.2.2 x (h.2.2.2.2.2 x hx).1).1, (g.2.2.2.2.2 x (h.2.2.2.2.2 x hx).1).2.1.trans (h.2.2.2.2.2 x hx).2.1, (g.2.2.2.2.2 x (h.2.2.2.2.2 x hx).1).2.2.trans (h.2.2.2.2.2 x hx).2.2⟩⟩
theorem PV.mr {s R : CS} (h : PV s R) : MR s R := ⟨fun j hj => h.2.1 j (by omega), h.2.2, h.1.2.2.2.2.2.2.2.2.1, h.1.2.2.2.2.2.2.2.2.2, by rw [h.1.2.2.2.2.2.2.1], fun x hx => ⟨by rw [h.ok1]; exact hx, by rw [h.1.2.2.2.1], by rw [h.1.2.2.2.2.1]⟩⟩
theorem MR.ceq {s R : CS} (h : MR s R) : CEQ s R := ⟨h.2.1 15 (by omega), h.2.1 16 (by omega), h.2.1 17 (by omega), h.1 20 (by omega)⟩
theorem pgn {α : Type} : ∀ (m n : Nat) (f g : Nat → α), (∀ i j : Nat, i < n → j < n → f i = f j → i = j) → (∀ i : Nat, i < n → ∃ j : Nat, j < m ∧ g j = f i) → n ≤ m
  | 0, n, f, g, _, h => by
    rcases Nat.eq_zero_or_pos n with e | e
    · omega
    · obtain ⟨j, hj, _⟩ := h 0 e
      omega
  | m + 1, n, f, g, hi, h => by
    by_cases c : ∃ i0 : Nat, i0 < n ∧ g m = f i0
    · obtain ⟨i0, h0, e0⟩ := c
      obtain ⟨n', rfl⟩ : ∃ n', n = n' + 1 := ⟨n - 1, by omega⟩
      have key : n' ≤ m := by
        refine pgn m n' (fun i => if i < i0 then f i else f (i + 1)) g (fun i j hi' hj' e => ?_) (fun i hi' => ?_)
        · have e : (if i < i0 then f i else f (i + 1)) = (if j < i0 then f j else f (j + 1)) := e
          by_cases c1 : i < i0
          · rw [if_pos c1] at e
            by_cases c2 : j < i0
            · rw [if_pos c2] at e; exact hi i j (by omega) (by omega) e
            · rw [if_neg c2] at e; have := hi i (j + 1) (by omega) (by omega) e; omega
          · rw [if_neg c1] at e
            by_cases c2 : j < i0
            · rw [if_pos c2] at e; have := hi (i + 1) j (by omega) (by omega) e; omega
            · rw [if_neg c2] at e; have := hi (i + 1) (j + 1) (by omega) (by omega) e; omega
        · have hx : ∃ x : Nat, x < n' + 1 ∧ x ≠ i0 ∧ (if i < i0 then f i else f (i + 1)) = f x := by
            by_cases c1 : i < i0
            · exact ⟨i, by omega, by omega, if_pos c1⟩
            · exact ⟨i + 1, by omega, by omega, if_neg c1⟩
          obtain ⟨x, x1, x2, x3⟩ := hx
          obtain ⟨j, j1, j2⟩ := h x x1
          refine ⟨j, ?_, by show g j = (if i < i0 then f i else f (i + 1)); rw [x3]; exact j2⟩
          have : j ≠ m := fun e => by
            rw [e, e0] at j2
            exact x2 (hi i0 x h0 x1 j2).symm
          omega
      omega
    · have := pgn m n f g hi (fun i hi' => by
        obtain ⟨j, j1, j2⟩ := h i hi'
        refine ⟨j, ?_, j2⟩
        have : j ≠ m := fun e => c ⟨i, hi', by rw [← e]; exact j2⟩
        omega)
      omega
/-- a frame holds it -/
def HELD (s : CS) (b : Nat) : Prop := ∃ i a : Nat, (i : Int) < dpI s ∧ i < 24 ∧ s.r 61 i = some a ∧ s.ot a = some b
theorem q_held2 {N : Nat} {s : CS} (hr : REFS s) (b : Nat) : ∀ (n : Nat) (x2 : Int32), 0 ≤ x2.toInt → x2.toInt ≤ 24 → 24 - x2.toInt < n → ok (f_X3_isHeld_2 N n s b x2) (fun R => R.2 = s ∧ (¬ R.1 = 0 → HELD s b) ∧ (R.1 = 0 → ∀ i a : Nat, x2.toInt ≤ (i : Int) → (i : Int) < dpI s → i < 24 → s.r 61 i = some a → s.ot a ≠ some b))
  | 0, x2, _, _, h => by omega
  | n + 1, x2, h0, h24, h => by
    show ok (b_X3_isHeld_2 N (f_X3_isHeld_2 N n) s b x2) _
    unfold b_X3_isHeld_2 f_X3_isHeld_46
    have e24 : (24 : Int32).toInt = 24 := by decide
    have e1 : (1 : Int32).toInt = 1 := by decide
    refine ok_ite (fun c => ok_some ⟨rfl, fun q => absurd rfl q, fun _ i a q1 q2 => ?_⟩) (fun c => ok_ite (fun c2 => ok_some ⟨rfl, fun q => absurd rfl q, fun _ i a q1 q2 q3 => ?_⟩) (fun c2 => ?_))
    · have := le_int c
      have q2 : (i : Int) < (s.i 67).toInt := q2
      omega
    · have := le_int c2
      omega
    have l1 : x2.toInt < 24 := by
      have := lt_int (Int32.not_le.mp c2)
      rw [e24] at this; exact this
    have l2 : x2.toInt < dpI s := lt_int (Int32.not_le.mp c)
    have es : (x2 + 1).toInt = x2.toInt + 1 := by rw [toInt_add] <;> rw [e1] <;> omega
    have cl : ((x2.toNatClampNeg : Nat) : Int) = x2.toInt := clampI h0
    have ih := q_held2 (N := N) hr b n (x2 + 1) (by omega) (by omega) (by omega)
    rw [es] at ih
    have go : (∀ a : Nat, s.r 61 x2.toNatClampNeg = some a → s.ot a ≠ some b) → ok (f_X3_isHeld_2 N n s b (x2 + 1)) (fun R => R.2 = s ∧ (¬ R.1 = 0 → HELD s b) ∧ (R.1 = 0 → ∀ i a : Nat, x2.toInt ≤ (i : Int) → (i : Int) < dpI s → i < 24 → s.r 61 i = some a → s.ot a ≠ some b)) := fun hx => ok_imp ih (fun R hR => ⟨hR.1, hR.2.1, fun q i a q1 q2 q3 q4 => by
      by_cases e : (i : Int) = x2.toInt
      · have e' : i = x2.toNatClampNeg := by omega
        rw [e'] at q4
        exact hx a q4
      · exact hR.2.2 q i a (by omega) q2 q3 q4⟩)
    refine ok_chk ⟨h0, l1⟩ ?_
    cases hf : s.r 61 x2.toNatClampNeg with
    | none => exact go (fun a q => by rw [hf] at q; cases q)
    | some a =>
      have ha := hr.2.2.2.1 x2.toNatClampNeg a (by omega) hf
      show ok (if oK s a 1 then _ else none) _
      refine ok_chk ha ?_
      cases ho : s.ot a with
      | none =>
        show ok (if (none : Option Nat) = (some b) then some (1, s) else f_X3_isHeld_2 N n s b (x2 + 1)) _
        rw [if_neg (by intro q; cases q)]
        exact go (fun a' q => by rw [hf] at q; cases q; rw [ho]; intro q; cases q)
      | some b' =>
        show ok (if (some b') = (some b) then some (1, s) else f_X3_isHeld_2 N n s b (x2 + 1)) _
        by_cases e : (some b') = (some b)
        · rw [if_pos e]
          exact ok_some ⟨rfl, fun _ => ⟨x2.toNatClampNeg, a, by omega, by omega, hf, ho.trans e⟩, fun q => absurd (show (1 : Int32) = 0 from q) (by decide)⟩
        · rw [if_neg e]
          exact go (fun a' q => by rw [hf] at q; cases q; rw [ho]; exact e)
theorem q_held {N : Nat} (hN : 1000 ≤ N) {s : CS} (hr : REFS s) (b : Nat) : ok (f_X3_isHeld N s b) (fun R => R.2 = s ∧ (¬ R.1 = 0 → HELD s b)) := ok_imp (q_held2 hr b N 0 (by decide) (by decide) (by rw [z_t0]; omega)) (fun R hR => ⟨hR.1, hR.2.1⟩)
/-- a new exception with its two rows -/
noncomputable def NT (s : CS) : CS := CS.setK (CS.new (CS.setK (CS.new (CS.new s 4) 3) s.hs 5) 3) s.hs 2
theorem NT.kk (s : CS) : (NT s).k = va_up (va_up (va_up (va_up (va_up s.k s.hs 4) (s.hs + 1) 3) s.hs 5) (s.hs + 1 + 1) 3) s.hs 2 := by
  unfold NT
  rw [ck_set, ck_new, ck_set, ck_new, ck_new, chs_setK, chs_new (CS.new s 4), chs_new s]
theorem NT.k {s : CS} {x : Nat} (h : x < s.hs) : (NT s).k x = s.k x := by
  rw [NT.kk]
  unfold va_up
  rw [if_neg (by omega), if_neg (by omega), if_neg (by omega), if_neg (by omega), if_neg (by omega)]
theorem NT.k0 {s : CS} : (NT s).k s.hs = 2 := by
  rw [NT.kk]
  unfold va_up
  rw [if_pos rfl]
theorem NT.k1 {s : CS} : (NT s).k (s.hs + 1) = 3 := by
  rw [NT.kk]
  unfold va_up
  rw [if_neg (by omega), if_neg (by omega), if_neg (by omega), if_pos rfl]
theorem NT.k2 {s : CS} : (NT s).k (s.hs + 2) = 3 := by
  rw [NT.kk]
  unfold va_up
  rw [if_neg (by omega), if_pos rfl]
theorem NT.L {s : CS} : (NT s).L = ((s.L ++ [s.hs]) ++ [s.hs + 1]) ++ [s.hs + 1 + 1] := by
  unfold NT
  rw [cL_setK, cL_new, cL_setK, cL_new, cL_new, chs_setK, chs_new (CS.new s 4), chs_new s]
theorem NT.hs {s : CS} : (NT s).hs = s.hs + 3 := by
  unfold NT
  rw [chs_setK, chs_new, chs_setK, chs_new, chs_new]
theorem NT.r {s : CS} : (NT s).r = s.r := by
  unfold NT
  rw [cr_setK, cr_new, cr_setK, cr_new, cr_new]
theorem NT.i {s : CS} : (NT s).i = s.i := by
  unfold NT
  rw [ci_setK, ci_new, ci_setK, ci_new, ci_new]
theorem NT.a {s : CS} : (NT s).a = s.a := by
  unfold NT
  rw [ca_setK, ca_new, ca_setK, ca_new, ca_new]
theorem NT.b {s : CS} : (NT s).b = s.b := by
  unfold NT
  rw [cb_setK, cb_new, cb_setK, cb_new, cb_new]
theorem NT.l {s : CS} : (NT s).l = s.l := by
  unfold NT
  rw [cl_setK, cl_new, cl_setK, cl_new, cl_new]
theorem NT.w {s : CS} : (NT s).w = s.w := by
  unfold NT
  rw [cw_setK, cw_new, cw_setK, cw_new, cw_new]
theorem NT.o {s : CS} {x : Nat} (h : x < s.hs) : (NT s).o x = s.o x ∧ (NT s).ol x = s.ol x ∧ (NT s).ot x = s.ot x := by
  have e1 : x ≠ s.hs := by omega
  have e2 : x ≠ (CS.new s 4).hs := by rw [chs_new]; omega
  have e3 : x ≠ (CS.setK (CS.new (CS.new s 4) 3) s.hs 5).hs := by rw [chs_setK, chs_new, chs_new]; omega
  unfold NT
  refine ⟨?_, ?_, ?_⟩
  · rw [co_setK, co_new _ _ e3, co_setK, co_new _ _ e2, co_new _ _ e1]
  · rw [col_setK, col_new _ _ e3, col_setK, col_new _ _ e2, col_new _ _ e1]
  · rw [cot_setK, cot_new _ _ e3, cot_setK, cot_new _ _ e2, cot_new _ _ e1]
theorem e_init {N : Nat} {s : CS} : f_X8_init N (CS.new s 4) s.hs = some ((), NT s) := by
  unfold f_X8_init
  have m1 : s.hs ∈ (CS.new (CS.new s 4) 3).L := by
    rw [cL_new, cL_new]
    exact List.mem_append_left _ (List.mem_append_right _ (List.mem_singleton.mpr rfl))
  have k1 : (CS.new (CS.new s 4) 3).k s.hs = 4 := by
    rw [ck_new, ck_new, chs_new]
    unfold va_up
    rw [if_neg (by omega), if_pos rfl]
  have m2 : s.hs ∈ (CS.new (CS.setK (CS.new (CS.new s 4) 3) s.hs 5) 3).L := by
    rw [cL_new, cL_setK, cL_new, cL_new]
    exact List.mem_append_left _ (List.mem_append_left _ (List.mem_append_right _ (List.mem_singleton.mpr rfl)))
  have k2 : (CS.new (CS.setK (CS.new (CS.new s 4) 3) s.hs 5) 3).k s.hs = 5 := by
    rw [ck_new, ck_set, chs_setK, chs_new, chs_new]
    unfold va_up
    rw [if_neg (by omega), if_pos rfl]
  have h1 : CS.hs (CS.new s 4) = s.hs + 1 := chs_new s 4
  have h2 : CS.hs (CS.setK (CS.new (CS.new s 4) 3) s.hs 5) = s.hs + 2 := by rw [chs_setK, chs_new, chs_new]
  rw [if_pos (show oK (CS.new (CS.new s 4) 3) s.hs 4 from ⟨m1, k1⟩), if_pos h1, if_pos (show oK (CS.new (CS.setK (CS.new (CS.new s 4) 3) s.hs 5) 3) s.hs 5 from ⟨m2, k2⟩), if_pos h2]
  rfl
