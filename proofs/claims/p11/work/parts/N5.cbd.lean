/-! the class's machine: out of a body, into a finally, out of a frame -/
/-- a frame's body is left -/
def FINB (s R : CS) (a : Nat) : Prop := ((R.a = s.a ∧ R.b = s.b ∧ R.l = s.l ∧ R.r = s.r) ∧ (R.w = s.w ∧ R.hs = s.hs ∧ R.L = s.L ∧ R.k = s.k ∧ R.ol = s.ol)) ∧ (∀ j : Nat, j ≠ 65 → j ≠ 66 → j ≠ 68 → j ≠ 73 → R.i j = s.i j) ∧ R.i 68 = s.o a 3 ∧ (∀ x : Nat, x ≠ a → R.o x = s.o x ∧ R.ot x = s.ot x) ∧ (R.o a 0 = 2 ∧ ∀ j : Nat, j ≠ 0 → R.o a j = s.o a j) ∧ ((s.i 73 = 4 ∧ R.i 73 = 0 ∧ R.i 66 = tg s (s.o a 1) ∧ R.ot a = s.w) ∨ (¬ s.i 73 = 4 ∧ R.i 73 = s.i 73 ∧ R.i 66 = s.i 66 ∧ R.ot a = s.ot a))
theorem q_fin {N : Nat} {s : CS} {a : Nat} (ha : oK s a 1) : ok (if (s.i 73) = 4 then oCase (CS.w (CS.setO (CS.setI s 68 (CS.o s a 3)) a 0 2)) ((f_X3_begin N (CS.setOt (CS.setO (CS.setI s 68 (CS.o s a 3)) a 0 2) a none) a (CS.o (CS.setOt (CS.setO (CS.setI s 68 (CS.o s a 3)) a 0 2) a none) a 1)).bind fun p6 => some ((), p6.2)) (fun a5 => (f_X3_begin N (CS.setOt (CS.setO (CS.setI s 68 (CS.o s a 3)) a 0 2) a (some a5)) a (CS.o (CS.setOt (CS.setO (CS.setI s 68 (CS.o s a 3)) a 0 2) a (some a5)) a 1)).bind fun p10 => some ((), p10.2)) else some ((), CS.setO (CS.setI s 68 (CS.o s a 3)) a 0 2) : Option (Unit × CS)) (fun R => FINB s R.2 a) := by
  obtain ⟨X, hX⟩ : ∃ X, X = CS.setO (CS.setI s 68 (CS.o s a 3)) a 0 2 := ⟨_, rfl⟩
  have xi : ∀ j : Nat, j ≠ 68 → X.i j = s.i j := fun j hj => by rw [hX, ci_setO, ci_ne _ _ _ hj]
  have x68 : X.i 68 = s.o a 3 := by rw [hX, ci_setO, ci_at]
  have xa : X.a = s.a := by rw [hX, ca_setO, ca_setI]
  have xb : X.b = s.b := by rw [hX, cb_setO, cb_setI]
  have xl : X.l = s.l := by rw [hX, cl_setO, cl_setI]
  have xr : X.r = s.r := by rw [hX, cr_setO, cr_setI]
  have xw : X.w = s.w := by rw [hX, cw_setO, cw_setI]
  have xh : X.hs = s.hs := by rw [hX, chs_setO, chs_setI]
  have xL : X.L = s.L := by rw [hX, cL_setO, cL_setI]
  have xk : X.k = s.k := by rw [hX, ck_setO, ck_setI]
  have xol : X.ol = s.ol := by rw [hX, col_setO, col_setI]
  have xot : X.ot = s.ot := by rw [hX, cot_setO, cot_setI]
  have xo : ∀ x : Nat, x ≠ a → X.o x = s.o x := fun x hx => by rw [hX, setO_ne hx, co_setI]
  have xo0 : X.o a 0 = 2 := by rw [hX, setO_at]
  have xoj : ∀ j : Nat, j ≠ 0 → X.o a j = s.o a j := fun j hj => by rw [hX, setO_k hj, co_setI]
  rw [← hX]
  clear hX
  refine ok_ite (fun c => ?_) (fun c => ?_)
  · have go : ∀ v : Option Nat, v = s.w → ok ((f_X3_begin N (CS.setOt X a v) a (CS.o (CS.setOt X a v) a 1)).bind fun p6 => some ((), p6.2)) (fun R => FINB s R.2 a) := fun v hv => by
      unfold f_X3_begin
      have okT : oK (CS.setOt X a v) a 1 := by unfold oK; rw [cL_setOt, ck_setOt, xL, xk]; exact ha
      rw [if_pos okT]
      refine ok_some ?_
      show FINB s (CS.setI (CS.setI (CS.setI (CS.setOt X a v) 65 ((CS.setOt X a v).o a 2)) 66 (gAt (CS.a (CS.setI (CS.setOt X a v) 65 ((CS.setOt X a v).o a 2)) 17) 1024 ((CS.setOt X a v).o a 1))) 73 0) a
      refine ⟨⟨⟨?_, ?_, ?_, ?_⟩, ?_, ?_, ?_, ?_, ?_⟩, fun j q1 q2 q3 q4 => ?_, ?_, fun x hx => ⟨?_, ?_⟩, ⟨?_, fun j hj => ?_⟩, Or.inl ⟨c, ?_, ?_, ?_⟩⟩
      · rw [ca_setI, ca_setI, ca_setI, ca_setOt, xa]
      · rw [cb_setI, cb_setI, cb_setI, cb_setOt, xb]
      · rw [cl_setI, cl_setI, cl_setI, cl_setOt, xl]
      · rw [cr_setI, cr_setI, cr_setI, cr_setOt, xr]
      · rw [cw_setI, cw_setI, cw_setI, cw_setOt, xw]
      · rw [chs_setI, chs_setI, chs_setI, chs_setOt, xh]
      · rw [cL_setI, cL_setI, cL_setI, cL_setOt, xL]
      · rw [ck_setI, ck_setI, ck_setI, ck_setOt, xk]
      · rw [col_setI, col_setI, col_setI, col_setOt, xol]
      · rw [ci_ne _ _ _ q4, ci_ne _ _ _ q2, ci_ne _ _ _ q1, ci_setOt, xi j q3]
      · rw [ci_ne _ _ _ (by decide), ci_ne _ _ _ (by decide), ci_ne _ _ _ (by decide), ci_setOt, x68]
      · rw [co_setI, co_setI, co_setI, co_setOt, xo x hx]
      · rw [cot_setI, cot_setI, cot_setI, cot_ne _ _ _ hx, xot]
      · rw [co_setI, co_setI, co_setI, co_setOt, xo0]
      · rw [co_setI, co_setI, co_setI, co_setOt, xoj j hj]
      · rw [ci_at]
      · rw [ci_ne _ _ _ (by decide), ci_at, ca_setI, ca_setOt, xa, co_setOt, xoj 1 (by decide)]
        rfl
      · rw [cot_setI, cot_setI, cot_setI, cot_at, hv]
    cases hw : s.w with
    | none =>
      rw [xw, hw]
      exact go none hw.symm
    | some b =>
      rw [xw, hw]
      exact go (some b) hw.symm
  · exact ok_some ⟨⟨⟨xa, xb, xl, xr⟩, xw, xh, xL, xk, xol⟩, fun j q1 q2 q3 q4 => xi j q3, x68, fun x hx => ⟨xo x hx, by show X.ot x = s.ot x; rw [xot]⟩, ⟨xo0, xoj⟩, Or.inr ⟨c, xi 73 (by decide), xi 66 (by decide), by show X.ot a = s.ot a; rw [xot]⟩⟩
theorem q_lb7 {N : Nat} (hN : 1000 ≤ N) {H : Nat} {s : CS} {a : Nat} (h0d : 0 ≤ dpI s) (hd : dpI s ≤ 22) (ha : oK s a 1) (hb : 0 ≤ (s.o a 3).toInt) : ∀ (n : Nat) (σ : CS) (x2 : Int32), LBR H s σ → -1 ≤ x2.toInt → x2.toInt < n → ok (f_X3_leaveBody_7 N (n + 1) σ a x2) (fun R => ∃ σ', LBR H s σ' ∧ FINB σ' R.2 a)
  | n, σ, x2, h, h1, hn => by
    show ok (b_X3_leaveBody_7 N (f_X3_leaveBody_7 N n) σ a x2) _
    unfold b_X3_leaveBody_7
    have q := h.2.2.2.1 a ha
    refine ok_chk q.1 ?_
    by_cases c : x2 < σ.o a 3
    · rw [if_pos c]
      exact ok_imp (q_fin q.1) (fun R hR => ⟨σ, h, hR⟩)
    · rw [if_neg c]
      have ge : (s.o a 3).toInt ≤ x2.toInt := by
        have := le_int (Int32.not_lt.mp c)
        rw [q.2.1] at this; exact this
      have e1 : (-1 : Int32).toInt = -1 := by decide
      have l2 := Int32.toInt_lt x2
      have es : (x2 + (-1)).toInt = x2.toInt - 1 := by rw [toInt_add] <;> rw [e1] <;> omega
      have ed : dpI σ = dpI s := by unfold dpI; rw [h.2.2.2.2.2.1 67 (by omega)]
      refine ok_bind (q_close hN h.1 h.2.1 (by rw [ed]; exact h0d) (by rw [ed]; exact hd) _) (fun p hp => ?_)
      obtain ⟨n', rfl⟩ : ∃ n', n = n' + 1 := ⟨n - 1, by omega⟩
      exact q_lb7 hN h0d hd ha hb n' p.2 (x2 + (-1)) (h.tr hp) (by omega) (by omega)
  termination_by n => n
theorem q_lb {N : Nat} (hN : 10000000000 ≤ N) {H : Nat} {s : CS} {a : Nat} (hr : REFS s) (hm : ROOM H s) (h0d : 0 ≤ dpI s) (hd : dpI s ≤ 22) (ha : oK s a 1) (hb : 0 ≤ (s.o a 3).toInt) (h68 : 0 ≤ (s.i 68).toInt) : ok (f_X3_leaveBody N s a) (fun R => ∃ σ', LBR H s σ' ∧ FINB σ' R.2 a) := by
  unfold f_X3_leaveBody
  obtain ⟨N', rfl⟩ : ∃ N', N = N' + 1 := ⟨N - 1, by omega⟩
  have e1 : (1 : Int32).toInt = 1 := by decide
  have l2 : (s.i 68).toInt < 2147483648 := by have := Int32.toInt_lt (s.i 68); omega
  have es : (s.i 68 - 1).toInt = (s.i 68).toInt - 1 := by rw [toInt_sub] <;> rw [e1] <;> omega
  exact q_lb7 (by omega) h0d hd ha hb N' s (s.i 68 - 1) (LBR.rf hr hm) (by omega) (by omega)
/-- a finally begins -/
def FINF (s R : CS) (a : Nat) : Prop := ((R.a = s.a ∧ R.b = s.b ∧ R.l = s.l ∧ R.r = s.r) ∧ (R.w = s.w ∧ R.hs = s.hs ∧ R.L = s.L ∧ R.k = s.k ∧ R.ol = s.ol)) ∧ (∀ j : Nat, j ≠ 65 → j ≠ 66 → j ≠ 73 → R.i j = s.i j) ∧ (∀ x : Nat, x ≠ a → R.o x = s.o x ∧ R.ot x = s.ot x) ∧ (R.o a 0 = 3 ∧ R.o a 3 = s.o a 3 ∧ R.o a 5 = s.i 73 ∧ R.o a 7 = s.i 75) ∧ R.i 73 = 0 ∧ R.i 66 = tg s (s.o a 1 + 1) ∧ R.ot a = s.w
theorem q_ef {N : Nat} {s : CS} {a : Nat} (ha : oK s a 1) : ok (f_X3_enterFinally N s a) (fun R => FINF s R.2 a) := by
  unfold f_X3_enterFinally
  rw [if_pos ha]
  have go : ∀ v : Option Nat, v = s.w → ok ((f_X3_begin N (CS.setO (CS.setO (CS.setO (CS.setOt (CS.setO s a 0 3) a v) a 5 (s.i 73)) a 6 (s.i 74)) a 7 (s.i 75)) a ((CS.o (CS.setO (CS.setO (CS.setO (CS.setOt (CS.setO s a 0 3) a v) a 5 (s.i 73)) a 6 (s.i 74)) a 7 (s.i 75)) a 1) + 1)).bind fun p4 => some ((), p4.2)) (fun R => FINF s R.2 a) := fun v hv => by
    obtain ⟨X, hX⟩ : ∃ X, X = CS.setO (CS.setO (CS.setO (CS.setOt (CS.setO s a 0 3) a v) a 5 (s.i 73)) a 6 (s.i 74)) a 7 (s.i 75) := ⟨_, rfl⟩
    have xi : X.i = s.i := by rw [hX, ci_setO, ci_setO, ci_setO, ci_setOt, ci_setO]
    have xa : X.a = s.a := by rw [hX, ca_setO, ca_setO, ca_setO, ca_setOt, ca_setO]
    have xb : X.b = s.b := by rw [hX, cb_setO, cb_setO, cb_setO, cb_setOt, cb_setO]
    have xl : X.l = s.l := by rw [hX, cl_setO, cl_setO, cl_setO, cl_setOt, cl_setO]
    have xr : X.r = s.r := by rw [hX, cr_setO, cr_setO, cr_setO, cr_setOt, cr_setO]
    have xw : X.w = s.w := by rw [hX, cw_setO, cw_setO, cw_setO, cw_setOt, cw_setO]
    have xh : X.hs = s.hs := by rw [hX, chs_setO, chs_setO, chs_setO, chs_setOt, chs_setO]
    have xL : X.L = s.L := by rw [hX, cL_setO, cL_setO, cL_setO, cL_setOt, cL_setO]
    have xk : X.k = s.k := by rw [hX, ck_setO, ck_setO, ck_setO, ck_setOt, ck_setO]
    have xol : X.ol = s.ol := by rw [hX, col_setO, col_setO, col_setO, col_setOt, col_setO]
    have xot : X.ot a = v := by rw [hX, cot_setO, cot_setO, cot_setO, cot_at]
    have xotn : ∀ x : Nat, x ≠ a → X.ot x = s.ot x := fun x hx => by rw [hX, cot_setO, cot_setO, cot_setO, cot_ne _ _ _ hx, cot_setO]
    have xo : ∀ x : Nat, x ≠ a → X.o x = s.o x := fun x hx => by rw [hX, setO_ne hx, setO_ne hx, setO_ne hx, co_setOt, setO_ne hx]
    have xo0 : X.o a 0 = 3 := by rw [hX, setO_k (by decide), setO_k (by decide), setO_k (by decide), co_setOt, setO_at]
    have xo1 : X.o a 1 = s.o a 1 := by rw [hX, setO_k (by decide), setO_k (by decide), setO_k (by decide), co_setOt, setO_k (by decide)]
    have xo3 : X.o a 3 = s.o a 3 := by rw [hX, setO_k (by decide), setO_k (by decide), setO_k (by decide), co_setOt, setO_k (by decide)]
    have xo5 : X.o a 5 = s.i 73 := by rw [hX, setO_k (by decide), setO_k (by decide), setO_at]
    have xo7 : X.o a 7 = s.i 75 := by rw [hX, setO_at]
    rw [← hX]
    clear hX
    unfold f_X3_begin
    rw [if_pos (show oK X a 1 by unfold oK; rw [xL, xk]; exact ha)]
    refine ok_some ?_
    show FINF s (CS.setI (CS.setI (CS.setI X 65 (X.o a 2)) 66 (gAt (CS.a (CS.setI X 65 (X.o a 2)) 17) 1024 (X.o a 1 + 1))) 73 0) a
    refine ⟨⟨⟨?_, ?_, ?_, ?_⟩, ?_, ?_, ?_, ?_, ?_⟩, fun j q1 q2 q4 => ?_, fun x hx => ⟨?_, ?_⟩, ⟨?_, ?_, ?_, ?_⟩, ?_, ?_, ?_⟩
    · rw [ca_setI, ca_setI, ca_setI, xa]
    · rw [cb_setI, cb_setI, cb_setI, xb]
    · rw [cl_setI, cl_setI, cl_setI, xl]
    · rw [cr_setI, cr_setI, cr_setI, xr]
    · rw [cw_setI, cw_setI, cw_setI, xw]
    · rw [chs_setI, chs_setI, chs_setI, xh]
    · rw [cL_setI, cL_setI, cL_setI, xL]
    · rw [ck_setI, ck_setI, ck_setI, xk]
    · rw [col_setI, col_setI, col_setI, xol]
    · rw [ci_ne _ _ _ q4, ci_ne _ _ _ q2, ci_ne _ _ _ q1, xi]
    · rw [co_setI, co_setI, co_setI, xo x hx]
    · rw [cot_setI, cot_setI, cot_setI, xotn x hx]
    · rw [co_setI, co_setI, co_setI, xo0]
    · rw [co_setI, co_setI, co_setI, xo3]
    · rw [co_setI, co_setI, co_setI, xo5]
    · rw [co_setI, co_setI, co_setI, xo7]
    · rw [ci_at]
    · rw [ci_ne _ _ _ (by decide), ci_at, ca_setI, xa, xo1]
      rfl
    · rw [cot_setI, cot_setI, cot_setI, xot, hv]
  cases hw : s.w with
  | none =>
    rw [cw_setO, hw]
    exact go none hw.symm
  | some b =>
    rw [cw_setO, hw]
    exact go (some b) hw.symm
