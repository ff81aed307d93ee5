/-! the class's reading: signs that are opened and closed -/
/-- as SMR, but for the number of begun signs -/
def SMX (s R : CS) : Prop := (R.i 38 = s.i 38 ∧ R.i 50 = s.i 50 ∧ R.i 53 = s.i 53 ∧ R.i 56 = s.i 56 ∧ R.i 22 = s.i 22 ∧ R.i 36 = s.i 36) ∧ RSQ s R (cnI s).toNat ∧ (∀ n : Nat, (n : Int) < nmI s → R.a 49 n = s.a 49 n) ∧ (∀ i : Nat, (i : Int) < ccI s → R.a 18 i = s.a 18 i ∧ R.a 19 i = s.a 19 i)
theorem SMR.x {s R : CS} (h : SMR s R) : SMX s R := ⟨h.1.2, h.2⟩
theorem SMX.r {s R : CS} (h : SMX s R) (e : R.i 34 = s.i 34) : SMR s R := ⟨⟨e, h.1⟩, h.2⟩
theorem SMX.tr {s R T : CS} (h : SMX s R) (g : SMX R T) : SMX s T := by
  obtain ⟨⟨a2, a3, a4, a5, a6, a7⟩, b, c, d⟩ := h
  obtain ⟨⟨e2, e3, e4, e5, e6, e7⟩, f, g2, k⟩ := g
  have ecn : cnI R = cnI s := by unfold cnI; rw [a4]
  have enm : nmI R = nmI s := by unfold nmI; rw [a3]
  have ecc : ccI R = ccI s := by unfold ccI; rw [a6]
  rw [ecn] at f
  rw [enm] at g2
  rw [ecc] at k
  exact ⟨⟨e2.trans a2, e3.trans a3, e4.trans a4, e5.trans a5, e6.trans a6, e7.trans a7⟩, b.tr f, fun n hn => (g2 n hn).trans (c n hn), fun i hi => ⟨(k i hi).1.trans (d i hi).1, (k i hi).2.trans (d i hi).2⟩⟩
theorem TS9.smx {s R : CS} (h : TS9 s R) : SMX s R := by
  obtain ⟨⟨a1, a2, a3, a4, a5, a6, a7, a8, a9, a10⟩, b⟩ := h
  exact ⟨⟨b 38 (by omega) (by omega), b 50 (by omega) (by omega), b 53 (by omega) (by omega), b 56 (by omega) (by omega), b 22 (by omega) (by omega), b 36 (by omega) (by omega)⟩, fun i _ => ⟨by rw [a7], fun a _ => ⟨by rw [a4], by rw [a5]⟩⟩, fun _ _ => by rw [a10], fun _ _ => by rw [a10]; exact ⟨rfl, rfl⟩⟩
/-- from one place to a later one, with d more signs begun -/
def MOV (d : Int) (s R : CS) : Prop := s.i 32 = 0 ∧ (plI s + 1 ≤ plI R ∧ eI s ≤ eI R) ∧ sgI R = sgI s + d ∧ SMX s R
theorem EXR.mv {s R : CS} (h : EXR s R) : MOV 0 s R := ⟨h.1, h.2.1, by rw [h.sg]; omega, h.2.2.x⟩
theorem MOV.tr {d e : Int} {s R T : CS} (h : MOV d s R) (g : MOV e R T) : MOV (d + e) s T := ⟨h.1, ⟨by have := h.2.1.1; have := g.2.1.1; omega, by have := h.2.1.2; have := g.2.1.2; omega⟩, by rw [g.2.2.1, h.2.2.1]; omega, h.2.2.2.tr g.2.2.2⟩
theorem MOV.ex {s R : CS} (h : MOV 0 s R) : EXR s R := ⟨h.1, h.2.1, h.2.2.2.r (Int32.toInt_inj.mp (by have := h.2.2.1; unfold sgI at this; omega))⟩
theorem i34_op {s : CS} (h0 : 0 ≤ sgI s) (h : s.i 34 < 20) : (s.i 34 + 1).toInt = sgI s + 1 ∧ sgI s + 1 ≤ 20 := by
  have e1 : (1 : Int32).toInt = 1 := by decide
  have e20 : (20 : Int32).toInt = 20 := by decide
  have l := lt_int h
  have h0 : 0 ≤ (s.i 34).toInt := h0
  refine ⟨?_, ?_⟩
  · show (s.i 34 + 1).toInt = (s.i 34).toInt + 1
    rw [toInt_add] <;> rw [e1] <;> omega
  · show (s.i 34).toInt + 1 ≤ 20
    omega
theorem JJ.op {H : HB} {x y : Int} {c : List Nat} {X : List (Nat × List Nat)} {P : List Nat} {lim : List Int} {s R : CS} {v : Int32} (h : JJ H x y c X P lim s) (hv : ¬ v = 0) (ho : FLD s R ∨ (s.i 43 = v ∧ s.i 34 < 20 ∧ ADV (CS.setI s 34 (s.i 34 + 1)) R)) : JJ H (x - 100) y c X P lim R ∧ (R.i 32 = 0 → MOV 1 s R) := by
  rcases ho with hf | ⟨h1, h2, h3⟩
  · exact ⟨JJ.flt h.1 hf, fun q => absurd q hf.2.2.2.1⟩
  have t9 : TS9 s (CS.setI s 34 (s.i 34 + 1)) := (TS9.rf s).i34 _
  have yi : ∀ j : Nat, j ≠ 34 → (CS.setI s 34 (s.i 34 + 1)).i j = s.i j := fun j q => ci_ne _ _ _ q
  have y34 : (CS.setI s 34 (s.i 34 + 1)).i 34 = s.i 34 + 1 := ci_at _ _ _
  have lY : LC (CS.setI s 34 (s.i 34 + 1)) := h.1.2.2.1
  generalize CS.setI s 34 (s.i 34 + 1) = Y at *
  have plY : plI Y = plI s := by unfold plI; rw [yi 44 (by decide)]
  have eY : eI Y = eI s := by unfold eI; rw [plY, yi 43 (by decide)]
  have jY : JJ H x y c X P lim Y := by
    refine ⟨t9.cb h.1 lY (by rw [yi 32 (by decide), yi 43 (by decide)]; exact h.1.2.2.2.2.1) (fun q => (yi 32 (by decide)).symm.trans q), fun q => ?_⟩
    obtain ⟨g, n⟩ := h.2 ((yi 32 (by decide)).symm.trans q)
    have sg := i34_op n.2.2.2.1.1 h2
    have esg : sgI Y = sgI s + 1 := by unfold sgI; rw [y34]; exact sg.1
    refine ⟨g.ck h.1.1 t9.ck, t9.nb n h.1.1 ⟨h.1.2.2.2.2.2.2.1.1, h.1.2.2.2.2.2.2.1.2.1⟩ h.1.2.2.2.2.2.2.1.2.2 (by omega) (by omega) (by omega) (by omega) ⟨?_, ?_, ?_⟩⟩
    · have := n.2.2.2.2.2.2.1; omega
    · have := n.2.2.2.1.1; omega
    · omega
  obtain ⟨j, e⟩ := jY.tk h3 (fun _ => by rw [yi 43 (by decide), h1]; exact hv)
  refine ⟨j, fun q => ?_⟩
  have ex := e q
  have q' : s.i 32 = 0 := (yi 32 (by decide)).symm.trans ex.1
  obtain ⟨g, n⟩ := h.2 q'
  have sg := i34_op n.2.2.2.1.1 h2
  refine ⟨q', ⟨by have := ex.2.1.1; omega, by have := ex.2.1.2; omega⟩, ?_, t9.smx.tr ex.2.2.x⟩
  rw [ex.sg]
  unfold sgI
  rw [y34]
  exact sg.1
/-- a sign less -/
theorem JJ.dn {H : HB} {x y : Int} {c : List Nat} {X : List (Nat × List Nat)} {P : List Nat} {lim : List Int} {s : CS} (h : JJ H x y c X P lim s) (hs : s.i 32 = 0 → SGS s (cnI s).toNat ≤ sgI s - 1 ∧ 0 ≤ sgI s - 1) : JJ H x y c X P lim (CS.setI s 34 (s.i 34 - 1)) ∧ ((CS.setI s 34 (s.i 34 - 1)).i 32 = 0 → s.i 32 = 0 ∧ plI (CS.setI s 34 (s.i 34 - 1)) = plI s ∧ eI (CS.setI s 34 (s.i 34 - 1)) = eI s ∧ sgI (CS.setI s 34 (s.i 34 - 1)) = sgI s - 1 ∧ SMX s (CS.setI s 34 (s.i 34 - 1))) := by
  have t9 : TS9 s (CS.setI s 34 (s.i 34 - 1)) := (TS9.rf s).i34 _
  have yi : ∀ j : Nat, j ≠ 34 → (CS.setI s 34 (s.i 34 - 1)).i j = s.i j := fun j q => ci_ne _ _ _ q
  have y34 : (CS.setI s 34 (s.i 34 - 1)).i 34 = s.i 34 - 1 := ci_at _ _ _
  have lY : LC (CS.setI s 34 (s.i 34 - 1)) := h.1.2.2.1
  generalize CS.setI s 34 (s.i 34 - 1) = Y at *
  have plY : plI Y = plI s := by unfold plI; rw [yi 44 (by decide)]
  have eY : eI Y = eI s := by unfold eI; rw [plY, yi 43 (by decide)]
  have e1 : (1 : Int32).toInt = 1 := by decide
  have esg : s.i 32 = 0 → sgI Y = sgI s - 1 := fun q => by
    have q1 := (hs q).2
    have n := (h.2 q).2.2.2.2.1.2
    have q1 : 0 ≤ (s.i 34).toInt - 1 := q1
    have n : (s.i 34).toInt ≤ 20 := n
    show (Y.i 34).toInt = (s.i 34).toInt - 1
    rw [y34, toInt_sub] <;> rw [e1] <;> omega
  refine ⟨⟨t9.cb h.1 lY (by rw [yi 32 (by decide), yi 43 (by decide)]; exact h.1.2.2.2.2.1) (fun q => (yi 32 (by decide)).symm.trans q), fun q => ?_⟩, fun q => ?_⟩
  · have q' := (yi 32 (by decide)).symm.trans q
    obtain ⟨g, n⟩ := h.2 q'
    have e := esg q'
    have s2 := hs q'
    have n3 := n.2.2.2.1.2
    exact ⟨g.ck h.1.1 t9.ck, t9.nb n h.1.1 ⟨h.1.2.2.2.2.2.2.1.1, h.1.2.2.2.2.2.2.1.2.1⟩ h.1.2.2.2.2.2.2.1.2.2 (by omega) (by omega) (by omega) (by omega) ⟨by omega, by omega, by omega⟩⟩
  · have q' := (yi 32 (by decide)).symm.trans q
    exact ⟨q', plY, eY, esg q', t9.smx⟩
/-- a sign is closed -/
theorem q_clos {N : Nat} {H : HB} (hN : 1000 ≤ N) {x y : Int} {c : List Nat} {X : List (Nat × List Nat)} {P : List Nat} {lim : List Int} {s : CS} (h : JJ H x y c X P lim s) (hs : s.i 32 = 0 → SGS s (cnI s).toNat ≤ sgI s - 1 ∧ 0 ≤ sgI s - 1) (v : Int32) (hv : ¬ v = 0) : ok (f_X1_close N s v) (fun R => JJ H (x - 100) y c X P lim R.2 ∧ (R.2.i 32 = 0 → MOV (-1) s R.2)) := by
  unfold f_X1_close f_X1_close_22
  have fin : ∀ V : CS, JJ H (x - 100) y c X P lim V → (V.i 32 = 0 → EXR s V) → ok (some ((), CS.setI V 34 ((V.i 34) - 1))) (fun R => JJ H (x - 100) y c X P lim R.2 ∧ (R.2.i 32 = 0 → MOV (-1) s R.2)) := fun V hV he => by
    have d := hV.dn (fun q => by
      have ex := he q
      have z := hs ex.1
      have ecn : cnI V = cnI s := by unfold cnI; rw [ex.2.2.1.2.2.2.1]
      rw [ex.sg, ecn, (ex.2.2.2.1.sums h.1.2.2.2.2.2.2.1.2.2).2.1]
      exact z)
    refine ok_some ⟨d.1, fun q => ?_⟩
    obtain ⟨d1, d2, d3, d4, d5⟩ := d.2 q
    have ex := he d1
    exact ⟨ex.1, ⟨by rw [d2]; exact ex.2.1.1, by rw [d3]; exact ex.2.1.2⟩, by rw [d4, ex.sg]; omega, ex.2.2.x.tr d5⟩
  refine ok_bind (q_found s v) (fun p hp => ?_)
  obtain ⟨p1, p2⟩ := hp
  rw [p1]
  rcases p2 with ⟨q1, q2⟩ | ⟨q1, q2⟩
  · rw [if_pos q1]
    exact ok_bind (q_misp h.1) (fun q hq => fin q.2 (JJ.flt h.1 hq) (fun z => absurd z hq.2.2.2.1))
  · rw [q1, if_neg (by decide)]
    refine ok_bind (q_advC hN h.1) (fun q hq => ?_)
    obtain ⟨j, e⟩ := h.tk hq (fun _ => by rw [q2]; exact hv)
    exact fin q.2 j e
/-- something between two signs -/
theorem q_br {N : Nat} {H : HB} (hN : 1000 ≤ N) {α : Type} {E : CS → Option (α × CS)} {B : α → Prop} {x y : Int} {c : List Nat} {X : List (Nat × List Nat)} {P : List Nat} {lim : List Int} {s : CS} (h : JJ H x y c X P lim s) (v w : Int32) (hv : ¬ v = 0) (hw : ¬ w = 0) (hE : ∀ R : CS, JJ H (x - 100) y c X P lim R → (R.i 32 = 0 → MOV 1 s R) → ok (E R) (fun T => (JJ H (x - 150) y c X P lim T.2 ∧ (T.2.i 32 = 0 → EXR R T.2)) ∧ B T.1)) {β : Type} {K : α → CS → Option β} {Q : β → Prop} (hK : ∀ (a : α) (R : CS), B a → JJ H (x - 250) y c X P lim R → (R.i 32 = 0 → EXR s R) → ok (K a R) Q) : ok ((f_X1_open N s v).bind fun p => (E p.2).bind fun q => (f_X1_close N q.2 w).bind fun r => K q.1 r.2) Q := by
  refine ok_bind (q_open hN h.1 v) (fun p hp => ?_)
  obtain ⟨j1, m1⟩ := h.op hv hp
  refine ok_bind (hE p.2 j1 m1) (fun q hq => ?_)
  obtain ⟨⟨j2, m2⟩, hB⟩ := hq
  have hs : q.2.i 32 = 0 → MOV 1 s q.2 := fun z => by
    have a := m2 z
    have b := (m1 a.1).tr a.mv
    exact b
  refine ok_bind (q_clos hN j2 (fun z => ?_) w hw) (fun r hr => ?_)
  · have a := hs z
    obtain ⟨g, n⟩ := h.2 a.1
    have ecn : cnI q.2 = cnI s := by unfold cnI; rw [a.2.2.2.1.2.2.1]
    rw [ecn, (a.2.2.2.2.1.sums h.1.2.2.2.2.2.2.1.2.2).2.1, a.2.2.1]
    have := n.2.2.2.2.2.2.1
    have := n.2.2.2.1.1
    omega
  · refine hK q.1 r.2 hB (hr.1.w (by omega) (Int.le_refl _)) (fun z => ?_)
    have a := hr.2 z
    have b := (hs a.1).tr a
    exact MOV.ex b
