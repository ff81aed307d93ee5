/-! the class's machine: an exception, a frame -/
theorem setO_ne {s : CS} {a k x : Nat} {v : Int32} (h : x ≠ a) : (CS.setO s a k v).o x = s.o x := if_neg h
theorem setO_k {s : CS} {a k j : Nat} {v : Int32} (h : j ≠ k) : (CS.setO s a k v).o a j = s.o a j := by
  show va_up s.o a (upd (s.o a) k v) a j = _
  unfold va_up
  rw [if_pos rfl]
  exact if_neg h
theorem setO_at {s : CS} {a k : Nat} {v : Int32} : (CS.setO s a k v).o a k = v := by
  show va_up s.o a (upd (s.o a) k v) a k = _
  unfold va_up
  rw [if_pos rfl]
  exact if_pos rfl
/-- frames stay as they are -/
def FK (s R : CS) : Prop := ∀ x : Nat, oK s x 1 → oK R x 1 ∧ R.o x = s.o x ∧ R.ot x = s.ot x
theorem FK.rf (s : CS) : FK s s := fun _ h => ⟨h, rfl, rfl⟩
theorem FK.tr {s R T : CS} (h : FK s R) (g : FK R T) : FK s T := fun x hx => ⟨(g x (h x hx).1).1, (g x (h x hx).1).2.1.trans (h x hx).2.1, (g x (h x hx).1).2.2.trans (h x hx).2.2⟩
theorem PV.fk {s R : CS} (h : PV s R) : FK s R := fun x hx => ⟨by rw [h.ok1]; exact hx, by rw [h.1.2.2.2.1], by rw [h.1.2.2.2.2.2.1]⟩
theorem FK.frm {s R : CS} (h : FK s R) (hr : REFS s) (hc : CEQ s R) (e61 : R.r 61 = s.r 61) {D : Nat → List Nat} {k k' : Int} (hk : k ≤ k') {c : List Nat} (hl : c.length ≤ 24) (hf : FRM s D k c) : FRM R D k' c := hf.of hc hk (fun i a hi e => by
  have q := h a (hr.2.2.2.1 i a (by omega) e)
  exact ⟨by rw [e61]; exact e, fun _ => q.1, q.2.1, q.2.2⟩)
theorem FK.hld {s R : CS} (h : FK s R) (hr : REFS s) (e61 : R.r 61 = s.r 61) {c : List Nat} (hl : c.length ≤ 24) (hf : HLD s c) : HLD R c := hf.of (fun i a hi e => by
  have q := h a (hr.2.2.2.1 i a (by omega) e)
  exact ⟨by rw [e61]; exact e, fun z => by rw [q.2.2]; exact z⟩)
/-- one that no frame holds was found -/
def NPR (H : Nat) (s R : CS) (b : Nat) : Prop := REFS R ∧ ROOM H R ∧ inP R b ∧ (R.i = s.i ∧ R.a = s.a ∧ R.w = s.w ∧ R.r 61 = s.r 61) ∧ MR s R ∧ FK s R
theorem NT.okm {s : CS} (h : ∀ x ∈ s.L, x < s.hs) {x t : Nat} (hx : oK s x t) : oK (NT s) x t := ⟨by
  rw [NT.L]
  exact List.mem_append_left _ (List.mem_append_left _ (List.mem_append_left _ hx.1)), by rw [NT.k (h x hx.1)]; exact hx.2⟩
theorem NPR.new {H : Nat} {s : CS} (hr : REFS s) (hm : ROOM H s) {m : Nat} (h24 : m < 24) (hn : s.r 62 m = none) : NPR H s (CS.setR (NT s) 62 m (some s.hs)) s.hs := by
  obtain ⟨V, hV⟩ : ∃ V, V = CS.setR (NT s) 62 m (some s.hs) := ⟨_, rfl⟩
  have vL : V.L = ((s.L ++ [s.hs]) ++ [s.hs + 1]) ++ [s.hs + 1 + 1] := by rw [hV, cL_setR]; exact NT.L
  have vh : V.hs = s.hs + 3 := by rw [hV, chs_setR]; exact NT.hs
  have vk : V.k = (NT s).k := by rw [hV, ck_setR]
  have v51 : V.r 51 = s.r 51 := by rw [hV, cr_ne _ _ _ _ (by decide), NT.r]
  have v61 : V.r 61 = s.r 61 := by rw [hV, cr_ne _ _ _ _ (by decide), NT.r]
  have v62 : V.r 62 = va_up (s.r 62) m (some s.hs) := by rw [hV, cr_at, NT.r]
  have vi : V.i = s.i := by rw [hV, ci_setR]; exact NT.i
  have va : V.a = s.a := by rw [hV, ca_setR]; exact NT.a
  have vb : V.b = s.b := by rw [hV, cb_setR]; exact NT.b
  have vl : V.l = s.l := by rw [hV, cl_setR]; exact NT.l
  have vw : V.w = s.w := by rw [hV, cw_setR]; exact NT.w
  have vo : V.o = (NT s).o := by rw [hV, co_setR]
  have vol : V.ol = (NT s).ol := by rw [hV, col_setR]
  have vot : V.ot = (NT s).ot := by rw [hV, cot_setR]
  rw [← hV]
  clear hV
  obtain ⟨h1, h2, h3, h4, h5, h6, h7, h8, h9⟩ := hr
  have okm : ∀ {x t : Nat}, oK s x t → oK V x t := fun {x t} hx => by
    have := NT.okm h1 hx
    unfold oK at this ⊢
    rw [vL, vk, ← NT.L]; exact this
  have v62m : V.r 62 m = some s.hs := by rw [v62]; exact if_pos rfl
  have v62n : ∀ j : Nat, j ≠ m → V.r 62 j = s.r 62 j := fun j hj => by rw [v62]; exact if_neg hj
  have pm : ∀ b : Nat, inP s b → inP V b := fun b ⟨j, j1, j2⟩ => ⟨j, j1, by
    rw [v62n j (fun e => by rw [e, hn] at j2; cases j2)]; exact j2⟩
  have nb : ∀ {x t : Nat}, oK s x t → x ≠ s.hs := fun {x t} hx e => by have := h1 x hx.1; omega
  have m0 : s.hs ∈ V.L := by rw [vL]; exact List.mem_append_left _ (List.mem_append_left _ (List.mem_append_right _ (List.mem_singleton.mpr rfl)))
  have m1 : s.hs + 1 ∈ V.L := by rw [vL]; exact List.mem_append_left _ (List.mem_append_right _ (List.mem_singleton.mpr rfl))
  have m2 : s.hs + 2 ∈ V.L := by rw [vL]; exact List.mem_append_right _ (List.mem_singleton.mpr rfl)
  refine ⟨⟨fun x hx => ?_, fun i a hi e => okm (h2 i a hi (by rw [← v51]; exact e)), fun i j a hi hj e1 e2 => h3 i j a hi hj (by rw [← v51]; exact e1) (by rw [← v51]; exact e2), fun i a hi e => okm (h4 i a hi (by rw [← v61]; exact e)), fun i j a hi hj e1 e2 => h5 i j a hi hj (by rw [← v61]; exact e1) (by rw [← v61]; exact e2), fun i a hi e => ?_, fun i j a hi hj e1 e2 => ?_, fun i a b hi e1 e2 => ?_, fun b e => pm b (h9 b (by rw [← vw]; exact e))⟩, ?_, ⟨m, h24, v62m⟩, ⟨vi, va, vw, v61⟩, ⟨fun _ _ => by rw [vi], fun _ _ => by rw [va], vb, vl, v51, fun x hx => ⟨okm hx, ?_, ?_⟩⟩, fun x hx => ⟨okm hx, ?_, ?_⟩⟩
  · rw [vL] at hx
    rw [vh]
    rcases List.mem_append.mp hx with hx | hx
    · rcases List.mem_append.mp hx with hx | hx
      · rcases List.mem_append.mp hx with hx | hx
        · have := h1 x hx; omega
        · have := List.mem_singleton.mp hx; omega
      · have := List.mem_singleton.mp hx; omega
    · have := List.mem_singleton.mp hx; omega
  · by_cases c : i = m
    · rw [c, v62m] at e
      cases e
      exact ⟨⟨m0, by rw [vk]; exact NT.k0⟩, ⟨m1, by rw [vk]; exact NT.k1⟩, ⟨m2, by rw [vk]; exact NT.k2⟩⟩
    · rw [v62n i c] at e
      have := h6 i a hi e
      exact ⟨okm this.1, okm this.2.1, okm this.2.2⟩
  · by_cases c : i = m
    · by_cases c' : j = m
      · omega
      · rw [c, v62m] at e1
        rw [v62n j c'] at e2
        cases e1
        exact absurd rfl (nb (h6 j _ hj e2).1)
    · by_cases c' : j = m
      · rw [c', v62m] at e2
        rw [v62n i c] at e1
        cases e2
        exact absurd rfl (nb (h6 i _ hi e1).1)
      · rw [v62n i c] at e1
        rw [v62n j c'] at e2
        exact h7 i j a hi hj e1 e2
  · rw [v61] at e1
    have ha := h4 i a hi e1
    rw [vot, (NT.o (h1 a ha.1)).2.2] at e2
    exact pm b (h8 i a b hi e1 e2)
  · unfold ROOM at *
    rw [vh, v51, v61, v62]
    have := nn.put (a := s.hs) hn (n := 24) h24
    omega
  · rw [vo]; exact (NT.o (h1 x hx.1)).1
  · rw [vol]; exact (NT.o (h1 x hx.1)).2.1
  · rw [vo]; exact (NT.o (h1 x hx.1)).1
  · rw [vot]; exact (NT.o (h1 x hx.1)).2.2
theorem q_free2 {N : Nat} (hN : 1000 ≤ N) {H : Nat} {s : CS} (hr : REFS s) (hm : ROOM H s) (h0d : 0 ≤ dpI s) (hd : dpI s ≤ 22) : ∀ (n : Nat) (x1 : Int32), 0 ≤ x1.toInt → x1.toInt ≤ 24 → 24 - x1.toInt < n → (∀ i : Nat, (i : Int) < x1.toInt → ∃ b, s.r 62 i = some b ∧ HELD s b) → ok (f_X3_freeThrown_2 N n s x1) (fun R => ∃ b, R.1 = some b ∧ NPR H s R.2 b)
  | 0, x1, _, _, h, _ => by omega
  | n + 1, x1, h0, h24, h, hp => by
    show ok (b_X3_freeThrown_2 N (f_X3_freeThrown_2 N n) s x1) _
    unfold b_X3_freeThrown_2
    have e24 : (24 : Int32).toInt = 24 := by decide
    have e1 : (1 : Int32).toInt = 1 := by decide
    have hlt : x1.toInt < 24 := by
      by_cases q : x1.toInt < 24
      · exact q
      · exfalso
        have := pgn (dpI s).toNat 24 (fun i => s.r 62 i) (fun j => (s.r 61 j).bind s.ot) (fun i j hi hj e => by
          obtain ⟨b, q1, -⟩ := hp i (by omega)
          have e : s.r 62 i = s.r 62 j := e
          exact hr.2.2.2.2.2.2.1 i j b hi hj q1 (e.symm.trans q1)) (fun i hi => by
          obtain ⟨b, q1, j, a, q2, q3, q4, q5⟩ := hp i (by omega)
          refine ⟨j, by omega, ?_⟩
          show (s.r 61 j).bind s.ot = s.r 62 i
          rw [q4, q1]; exact q5)
        omega
    have c24 : ¬ (24 : Int32) ≤ x1 := fun q => by have := le_int q; omega
    have cl : ((x1.toNatClampNeg : Nat) : Int) = x1.toInt := clampI h0
    have es : (x1 + 1).toInt = x1.toInt + 1 := by rw [toInt_add] <;> rw [e1] <;> omega
    have hib : ib x1 24 := ⟨h0, by omega⟩
    rw [if_neg c24, if_pos hib]
    cases hf : s.r 62 x1.toNatClampNeg with
    | none =>
      show ok ((f_X8_init N (CS.new s 4) (CS.hs s)).bind _) _
      rw [e_init]
      have hnp := NPR.new hr hm (m := x1.toNatClampNeg) (by omega) hf
      obtain ⟨V, hV⟩ : ∃ V, V = CS.setR (NT s) 62 x1.toNatClampNeg (some s.hs) := ⟨_, rfl⟩
      have ok2 : oK (NT s) (CS.hs s) 2 := by
        refine ⟨?_, NT.k0⟩
        rw [NT.L]
        exact List.mem_append_left _ (List.mem_append_left _ (List.mem_append_right _ (List.mem_singleton.mpr rfl)))
      show ok (if ib x1 24 then if oK (NT s) (CS.hs s) 2 then oCase (CS.r (CS.setR (NT s) 62 x1.toNatClampNeg (some (CS.hs s))) 62 x1.toNatClampNeg) none (fun a18 => (f_X3_isHeld N (CS.setR (NT s) 62 x1.toNatClampNeg (some (CS.hs s))) a18).bind fun p19 => (if p19.1 = 0 then oCase (CS.r p19.2 62 x1.toNatClampNeg) (some (none, p19.2)) (fun a25 => some ((some a25), p19.2)) else f_X3_freeThrown_2 N n p19.2 (x1 + 1))) else none else none) _
      rw [if_pos hib, if_pos ok2]
      rw [← hV] at hnp ⊢
      have v62 : V.r 62 x1.toNatClampNeg = some s.hs := by rw [hV, cr_at]; exact if_pos rfl
      clear hV
      rw [v62]
      show ok ((f_X3_isHeld N V s.hs).bind _) _
      refine ok_bind (q_held hN hnp.1 s.hs) (fun p hpp => ?_)
      obtain ⟨p1, p2⟩ := hpp
      by_cases c : p.1 = 0
      · rw [if_pos c, p1, v62]
        exact ok_some ⟨s.hs, rfl, hnp⟩
      · exfalso
        obtain ⟨i, a, q1, q2, q3, q4⟩ := p2 c
        rw [hnp.2.2.2.1.2.2.2] at q3
        have ha := hr.2.2.2.1 i a q2 q3
        rw [(hnp.2.2.2.2.2 a ha).2.2] at q4
        obtain ⟨j, j1, j2⟩ := hr.2.2.2.2.2.2.2.1 i a s.hs q2 q3 q4
        have := hr.1 s.hs (hr.2.2.2.2.2.1 j s.hs j1 j2).1.1
        omega
    | some b =>
      show ok ((f_X3_isHeld N s b).bind _) _
      refine ok_bind (q_held hN hr b) (fun p hpp => ?_)
      obtain ⟨p1, p2⟩ := hpp
      by_cases c : p.1 = 0
      · rw [if_pos c, p1, hf]
        exact ok_some ⟨b, rfl, hr, hm, ⟨x1.toNatClampNeg, by omega, hf⟩, ⟨rfl, rfl, rfl, rfl⟩, MR.rf s, FK.rf s⟩
      · rw [if_neg c, p1]
        refine q_free2 hN hr hm h0d hd n (x1 + 1) (by omega) (by omega) (by omega) (fun i hi => ?_)
        by_cases e : (i : Int) = x1.toInt
        · have e' : i = x1.toNatClampNeg := by omega
          rw [e']
          exact ⟨b, hf, p2 c⟩
        · exact hp i (by omega)
theorem q_free {N : Nat} (hN : 1000 ≤ N) {H : Nat} {s : CS} (hr : REFS s) (hm : ROOM H s) (h0d : 0 ≤ dpI s) (hd : dpI s ≤ 22) : ok (f_X3_freeThrown N s) (fun R => ∃ b, R.1 = some b ∧ NPR H s R.2 b) := q_free2 hN hr hm h0d hd N 0 (by decide) (by decide) (by rw [z_t0]; omega) (fun i hi => by rw [z_t0] at hi; omega)
/-- something is thrown -/
def RSD (H : Nat) (s R : CS) : Prop := REFS R ∧ ROOM H R ∧ MR s R ∧ (∀ j : Nat, j ≠ 73 → j ≠ 74 → j ≠ 75 → R.i j = s.i j) ∧ R.i 73 = 4 ∧ R.i 75 = 0 ∧ R.w ≠ none ∧ R.a = s.a ∧ R.r 61 = s.r 61 ∧ FK s R
theorem q_raise {N : Nat} (hN : 1000 ≤ N) {H : Nat} {s : CS} (hr : REFS s) (hm : ROOM H s) (h0d : 0 ≤ dpI s) (hd : dpI s ≤ 22) (x1 x2 : Int32) : ok (f_X3_raise N s x1 x2) (fun R => RSD H s R.2) := by
  unfold f_X3_raise
  refine ok_bind (q_free hN hr hm h0d hd) (fun p hp => ?_)
  obtain ⟨b, e, h1, h2, h3, ⟨h4, h5, h6, h7⟩, h8, h9⟩ := hp
  rw [e]
  obtain ⟨j, j1, j2⟩ := h3
  have hb := (h1.2.2.2.2.2.1 j b j1 j2).1
  show ok (if oK p.2 b 2 then if oK p.2 b 2 then if oK p.2 b 2 then ((f_X3_go N (CS.setO (CS.setO (CS.setO (CS.setW p.2 (some b)) b 2 x1) b 3 x2) b 4 0) 4 0 0).bind fun p29 => some ((), p29.2)) else none else none else none) _
  rw [if_pos hb, if_pos hb, if_pos hb]
  refine ok_some ?_
  obtain ⟨W, hW⟩ : ∃ W, W = CS.setO (CS.setO (CS.setO (CS.setW p.2 (some b)) b 2 x1) b 3 x2) b 4 0 := ⟨_, rfl⟩
  have wi : W.i = p.2.i := by rw [hW, ci_setO, ci_setO, ci_setO, ci_setW]
  have wa : W.a = p.2.a := by rw [hW, ca_setO, ca_setO, ca_setO, ca_setW]
  have wb : W.b = p.2.b := by rw [hW, cb_setO, cb_setO, cb_setO, cb_setW]
  have wl : W.l = p.2.l := by rw [hW, cl_setO, cl_setO, cl_setO, cl_setW]
  have wr : W.r = p.2.r := by rw [hW, cr_setO, cr_setO, cr_setO, cr_setW]
  have ww : W.w = some b := by rw [hW, cw_setO, cw_setO, cw_setO, cw_at]
  have wh : W.hs = p.2.hs := by rw [hW, chs_setO, chs_setO, chs_setO, chs_setW]
  have wL : W.L = p.2.L := by rw [hW, cL_setO, cL_setO, cL_setO, cL_setW]
  have wk : W.k = p.2.k := by rw [hW, ck_setO, ck_setO, ck_setO, ck_setW]
  have wot : W.ot = p.2.ot := by rw [hW, cot_setO, cot_setO, cot_setO, cot_setW]
  have wol : W.ol = p.2.ol := by rw [hW, col_setO, col_setO, col_setO, col_setW]
  have wo : ∀ x : Nat, x ≠ b → W.o x = p.2.o x := fun x hx => by rw [hW, setO_ne hx, setO_ne hx, setO_ne hx, co_setW]
  show RSD H s (CS.setI (CS.setI (CS.setI (CS.setO (CS.setO (CS.setO (CS.setW p.2 (some b)) b 2 x1) b 3 x2) b 4 0) 73 4) 74 0) 75 0)
  rw [← hW]
  clear hW
  obtain ⟨T, hT⟩ : ∃ T, T = CS.setI (CS.setI (CS.setI W 73 4) 74 0) 75 0 := ⟨_, rfl⟩
  have ti : ∀ j : Nat, j ≠ 73 → j ≠ 74 → j ≠ 75 → T.i j = W.i j := fun j q1 q2 q3 => by rw [hT, ci_ne _ _ _ q3, ci_ne _ _ _ q2, ci_ne _ _ _ q1]
  have t73 : T.i 73 = 4 := by rw [hT, ci_ne _ _ _ (by decide), ci_ne _ _ _ (by decide), ci_at]
  have t75 : T.i 75 = 0 := by rw [hT, ci_at]
  have ta : T.a = W.a := by rw [hT, ca_setI, ca_setI, ca_setI]
  have tb : T.b = W.b := by rw [hT, cb_setI, cb_setI, cb_setI]
  have tl : T.l = W.l := by rw [hT, cl_setI, cl_setI, cl_setI]
  have tr : T.r = W.r := by rw [hT, cr_setI, cr_setI, cr_setI]
  have tw : T.w = W.w := by rw [hT, cw_setI, cw_setI, cw_setI]
  have th : T.hs = W.hs := by rw [hT, chs_setI, chs_setI, chs_setI]
  have tL : T.L = W.L := by rw [hT, cL_setI, cL_setI, cL_setI]
  have tk : T.k = W.k := by rw [hT, ck_setI, ck_setI, ck_setI]
  have tot : T.ot = W.ot := by rw [hT, cot_setI, cot_setI, cot_setI]
  have tol : T.ol = W.ol := by rw [hT, col_setI, col_setI, col_setI]
  have to' : T.o = W.o := by rw [hT, co_setI, co_setI, co_setI]
  rw [← hT]
  clear hT
  have okT : ∀ {x t : Nat}, oK p.2 x t → oK T x t := fun {x t} h => by unfold oK at *; rw [tL, tk, wL, wk]; exact h
  refine ⟨⟨?_, ?_, ?_, ?_, ?_, ?_, ?_, ?_, ?_⟩, ?_, ?_, fun j q1 q2 q3 => by rw [ti j q1 q2 q3, wi, h4], t73, t75, ?_, by rw [ta, wa, h5], by rw [tr, wr, h7], fun x hx => ?_⟩
  · rw [tL, wL, th, wh]; exact h1.1
  · intro i a hi e1; rw [tr, wr] at e1; exact okT (h1.2.1 i a hi e1)
  · rw [tr, wr]; exact h1.2.2.1
  · intro i a hi e1; rw [tr, wr] at e1; exact okT (h1.2.2.2.1 i a hi e1)
  · rw [tr, wr]; exact h1.2.2.2.2.1
  · intro i a hi e1; rw [tr, wr] at e1
    have := h1.2.2.2.2.2.1 i a hi e1
    exact ⟨okT this.1, okT this.2.1, okT this.2.2⟩
  · rw [tr, wr]; exact h1.2.2.2.2.2.2.1
  · unfold inP; rw [tr, wr, tot, wot]; exact h1.2.2.2.2.2.2.2.1
  · intro b' e1
    rw [tw, ww] at e1
    cases e1
    exact ⟨j, j1, by rw [tr, wr]; exact j2⟩
  · unfold ROOM at *; rw [th, wh, tr, wr]; exact h2
  · refine h8.tr ⟨fun j hj => by rw [ti j (by omega) (by omega) (by omega), wi], fun k _ => by rw [ta, wa], by rw [tb, wb], by rw [tl, wl], by rw [tr, wr], fun x hx => ⟨okT hx, ?_, by rw [tol, wol]⟩⟩
    rw [to']
    exact wo x (fun e => by rw [e] at hx; have := hx.2; rw [hb.2] at this; omega)
  · rw [tw, ww]; intro q; cases q
  · have q := h9 x hx
    refine ⟨okT q.1, ?_, by rw [tot, wot]; exact q.2.2⟩
    rw [to', wo x (fun e => by have := q.1.2; rw [e, hb.2] at this; omega)]
    exact q.2.1
