/-! the class's machine: resources are closed, frames are left -/
/-- between two closings -/
def LBR (H : Nat) (s R : CS) : Prop := REFS R ∧ ROOM H R ∧ MR s R ∧ FK s R ∧ R.r 61 = s.r 61 ∧ (∀ j : Nat, j = 66 ∨ j = 67 ∨ j = 68 → R.i j = s.i j) ∧ ((R.i 73 = s.i 73 ∧ R.i 75 = s.i 75 ∧ R.w = s.w) ∨ (R.i 73 = 4 ∧ R.i 75 = 0 ∧ R.w ≠ none))
theorem LBR.rf {H : Nat} {s : CS} (hr : REFS s) (hm : ROOM H s) : LBR H s s := ⟨hr, hm, MR.rf s, FK.rf s, rfl, fun _ _ => rfl, Or.inl ⟨rfl, rfl, rfl⟩⟩
theorem LBR.tr {H : Nat} {s R T : CS} (h : LBR H s R) (g : LBR H R T) : LBR H s T := by
  obtain ⟨a1, a2, a3, a4, a5, a6, a7⟩ := h
  obtain ⟨b1, b2, b3, b4, b5, b6, b7⟩ := g
  refine ⟨b1, b2, a3.tr b3, a4.tr b4, b5.trans a5, fun j hj => (b6 j hj).trans (a6 j hj), ?_⟩
  rcases b7 with ⟨q1, q2, q3⟩ | b7
  · rcases a7 with ⟨p1, p2, p3⟩ | ⟨p1, p2, p3⟩
    · exact Or.inl ⟨q1.trans p1, q2.trans p2, q3.trans p3⟩
    · exact Or.inr ⟨q1.trans p1, q2.trans p2, by rw [q3]; exact p3⟩
  · exact Or.inr b7
theorem PQ.lbr {H : Nat} {s R : CS} (h : PQ s R) (hr : REFS s) (hm : ROOM H s) : LBR H s R := ⟨h.1.refs hr, h.1.room hm, h.1.mr, h.1.fk, by rw [h.1.1.2.2.2.2.2.2.1], fun j hj => by
  rcases hj with q | q | q
  · rw [q]; exact h.2
  · rw [q]; exact h.1.2.1 67 (by omega)
  · rw [q]; exact h.1.2.1 68 (by omega), Or.inl ⟨h.1.2.1 73 (by omega), h.1.2.1 75 (by omega), h.1.1.2.2.2.2.2.2.2.1⟩⟩
theorem RSD.lbr {H : Nat} {s R : CS} (h : RSD H s R) : LBR H s R := ⟨h.1, h.2.1, h.2.2.1, h.2.2.2.2.2.2.2.2.2, h.2.2.2.2.2.2.2.2.1, fun j hj => h.2.2.2.1 j (by omega) (by omega) (by omega), Or.inr ⟨h.2.2.2.2.1, h.2.2.2.2.2.1, h.2.2.2.2.2.2.1⟩⟩
/-- only what lies in an exception changes -/
theorem q_supp {N H : Nat} {s : CS} (hr : REFS s) (hm : ROOM H s) {b : Nat} (hb : inP s b) (x1 x2 : Int32) : ok (f_X8_suppress N s b x1 x2) (fun R => LBR H s R.2) := by
  obtain ⟨j, j1, j2⟩ := hb
  obtain ⟨o1, o2, o3⟩ := hr.2.2.2.2.2.1 j b j1 j2
  unfold f_X8_suppress
  refine ok_chk o1 (ok_ite (fun _ => ok_some (LBR.rf hr hm)) (fun _ => ok_chk o2 (ok_chk o3 (ok_some ?_))))
  have key : ∀ (f g : Nat → Int32) (v : Int32), LBR H s (CS.setO (CS.putOA (CS.putOA s (b + 1) f) (b + 2) g) b 4 v) := fun f g v => by
    obtain ⟨T, hT⟩ : ∃ T, T = CS.setO (CS.putOA (CS.putOA s (b + 1) f) (b + 2) g) b 4 v := ⟨_, rfl⟩
    have ti : T.i = s.i := by rw [hT, ci_setO, ci_putOA, ci_putOA]
    have ta : T.a = s.a := by rw [hT, ca_setO, ca_putOA, ca_putOA]
    have tb : T.b = s.b := by rw [hT, cb_setO, cb_putOA, cb_putOA]
    have tl : T.l = s.l := by rw [hT, cl_setO, cl_putOA, cl_putOA]
    have tr : T.r = s.r := by rw [hT, cr_setO, cr_putOA, cr_putOA]
    have tw : T.w = s.w := by rw [hT, cw_setO, cw_putOA, cw_putOA]
    have th : T.hs = s.hs := by rw [hT, chs_setO, chs_putOA, chs_putOA]
    have tL : T.L = s.L := by rw [hT, cL_setO, cL_putOA, cL_putOA]
    have tk : T.k = s.k := by rw [hT, ck_setO, ck_putOA, ck_putOA]
    have tot : T.ot = s.ot := by rw [hT, cot_setO, cot_putOA, cot_putOA]
    have tol : T.ol = s.ol := by rw [hT, col_setO, col_putOA, col_putOA]
    have to' : ∀ x : Nat, x ≠ b → T.o x = s.o x := fun x hx => by rw [hT, setO_ne hx, co_putOA, co_putOA]
    rw [← hT]
    clear hT
    have okT : ∀ {x t : Nat}, oK T x t = oK s x t := fun {x t} => by unfold oK; rw [tL, tk]
    refine ⟨?_, ?_, ⟨fun _ _ => by rw [ti], fun _ _ => by rw [ta], tb, tl, by rw [tr], fun x hx => ⟨by rw [okT]; exact hx, to' x (fun e => ?_), by rw [tol]⟩⟩, fun x hx => ⟨by rw [okT]; exact hx, to' x (fun e => ?_), by rw [tot]⟩, by rw [tr], fun _ _ => by rw [ti], Or.inl ⟨by rw [ti], by rw [ti], tw⟩⟩
    · unfold REFS inP oK at *
      rw [th, tL, tk, tot, tr, tw]
      exact hr
    · unfold ROOM at *; rw [th, tr]; exact hm
    · rw [e] at hx; have := hx.2; rw [o1.2] at this; omega
    · rw [e] at hx; have := hx.2; rw [o1.2] at this; omega
  exact key _ _ _
theorem q_close {N : Nat} (hN : 1000 ≤ N) {H : Nat} {s : CS} (hr : REFS s) (hm : ROOM H s) (h0d : 0 ≤ dpI s) (hd : dpI s ≤ 22) (x : Int32) : ok (f_X3_closeOne N s x) (fun R => LBR H s R.2) := by
  unfold f_X3_closeOne
  refine ok_bind (q_note N s 2 x) (fun p hp => ?_)
  have hp1 : LBR H s p.2 := hp.lbr hr hm
  have rs : ∀ y : Int32, ok (f_X3_closeOne_50 N p.2 x y) (fun R => LBR H s R.2) := fun y => by
    unfold f_X3_closeOne_50
    have ed : dpI p.2 = dpI s := by unfold dpI; rw [hp1.2.2.2.2.2.1 67 (by omega)]
    exact ok_bind (q_raise hN hp1.1 hp1.2.1 (by rw [ed]; exact h0d) (by rw [ed]; exact hd) y x) (fun q hq => ok_some (hp1.tr hq.lbr))
  refine ok_ite (fun _ => ok_ite (fun _ => ?_) (fun _ => rs _)) (fun _ => ok_some hp1)
  cases hw : p.2.w with
  | none => exact rs _
  | some b =>
    have hb := hp1.1.2.2.2.2.2.2.2.2 b hw
    obtain ⟨j, j1, j2⟩ := hb
    show ok (if oK p.2 b 2 then (f_X8_suppress N p.2 b _ x).bind _ else none) _
    rw [if_pos (hp1.1.2.2.2.2.2.1 j b j1 j2).1]
    exact ok_bind (q_supp hp1.1 hp1.2.1 ⟨j, j1, j2⟩ _ _) (fun q hq => ok_some (hp1.tr hq))
/-- where the machine stands while it goes on -/
def ONP (s : CS) (D : Nat → List Nat) (k : Int) (c : List Nat) : Prop := 0 ≤ (s.i 66).toInt ∧ (s.i 66).toInt ≤ 2000000 + k ∧ (1200 ≤ (s.i 66).toInt ∨ (s.i 66).toInt < szI s ∧ D (s.i 66).toInt.toNat = c)
def GOL (s : CS) : Int := (s.i 75 - s.i 75 / 32 * 32).toInt
def MW (s : CS) (D : Nat → List Nat) (k : Int) (c : List Nat) : Prop := (s.i 73 = 0 ∧ HLD s c ∧ ONP s D k c) ∨ ((s.i 73 = 1 ∨ s.i 73 = 2) ∧ LVT s D (s.i 75) c ∧ HLD s c.tail ∧ (HLD s c ∨ GOL s < c.length)) ∨ ((s.i 73 = 3 ∨ s.i 73 = 4) ∧ s.i 75 = 0 ∧ HLD s c.tail ∧ (s.i 73 = 4 → s.w ≠ none))
/-- the machine's state at a tick -/
def MI (H : Nat) (s : CS) (D : Nat → List Nat) (k : Int) : Prop := REFS s ∧ ROOM H s ∧ WTC s D ∧ (0 ≤ (s.i 68).toInt ∧ (s.i 68).toInt ≤ k) ∧ ∃ c : List Nat, (c.length : Int) = dpI s ∧ c.length ≤ 22 ∧ FRM s D k c ∧ MW s D k c
theorem VN.on {s : CS} {D : Nat → List Nat} {n k : Int} {c : List Nat} (h : VN s D n c) (hk : 0 ≤ k) (e : (s.i 66).toInt = n) : ONP s D k c := by
  obtain ⟨h1, h2, h3⟩ := h
  unfold ONP
  rw [e]
  exact ⟨h1, by omega, h3⟩
theorem LVT.g {s : CS} {D : Nat → List Nat} {x : Int32} {ph ph' : Nat} {r : List Nat} (h : LVT s D x (ph :: r)) (hg : (x - x / 32 * 32).toInt < ((r.length : Int) + 1)) : LVT s D x (ph' :: r) ∧ LVT s D x r := by
  obtain ⟨g, g1, g2, g3⟩ := h
  have g4 : g ≤ r.length := by omega
  have e0 : ∀ p : Nat, (p :: r).length - g = (r.length - g) + 1 := fun p => by show r.length + 1 - g = _; omega
  have e1 : ∀ p : Nat, (p :: r).drop ((p :: r).length - g) = r.drop (r.length - g) := fun p => by rw [e0 p]; rfl
  rw [e1] at g3
  exact ⟨⟨g, g1, by show g ≤ r.length + 1; omega, by rw [e1]; exact g3⟩, g, g1, g4, g3⟩
/-- a part of the top frame changes -/
theorem FRM.tl {s R : CS} {D : Nat → List Nat} {k k' : Int} {r : List Nat} {a : Nat} (hr : REFS s) (hl : r.length < 24) (ha : s.r 61 r.length = some a) (hc : CEQ s R) (e61 : R.r 61 = s.r 61) (hk : k ≤ k') (ho : ∀ x : Nat, x ≠ a → (oK s x 1 → oK R x 1) ∧ R.o x = s.o x ∧ R.ot x = s.ot x) (hf : FRM s D k r) : FRM R D k' r := hf.of hc hk (fun i a' hi e => by
  have ne : a' ≠ a := fun q => by
    rw [q] at e
    have := hr.2.2.2.2.1 i r.length a (by omega) hl e ha
    omega
  have q := ho a' ne
  exact ⟨by rw [e61]; exact e, q.1, q.2.1, q.2.2⟩)
theorem HLD.tl {s R : CS} {r : List Nat} {a : Nat} (hr : REFS s) (hl : r.length < 24) (ha : s.r 61 r.length = some a) (e61 : R.r 61 = s.r 61) (ho : ∀ x : Nat, x ≠ a → R.ot x = s.ot x) (hf : HLD s r) : HLD R r := hf.of (fun i a' hi e => by
  have ne : a' ≠ a := fun q => by
    rw [q] at e
    have := hr.2.2.2.2.1 i r.length a (by omega) hl e ha
    omega
  exact ⟨by rw [e61]; exact e, fun z => by rw [ho a' ne]; exact z⟩)
/-- an exception or nothing is put into a frame, and its numbers change -/
theorem REFS.fr {s R : CS} {a : Nat} (hr : REFS s) (e1 : R.hs = s.hs) (e2 : R.L = s.L) (e3 : R.k = s.k) (e4 : R.r = s.r) (hw : ∀ b : Nat, R.w = some b → inP s b) (ho : ∀ x : Nat, x ≠ a → R.ot x = s.ot x) (ha : ∀ b : Nat, R.ot a = some b → inP s b) : REFS R := by
  obtain ⟨h1, h2, h3, h4, h5, h6, h7, h8, h9⟩ := hr
  have ok' : ∀ {x t : Nat}, oK R x t = oK s x t := fun {x t} => by unfold oK; rw [e2, e3]
  have ip : ∀ b : Nat, inP R b = inP s b := fun b => by unfold inP; rw [e4]
  refine ⟨by rw [e1, e2]; exact h1, fun i x hi e => by rw [ok']; exact h2 i x hi (by rw [← e4]; exact e), by rw [e4]; exact h3, fun i x hi e => by rw [ok']; exact h4 i x hi (by rw [← e4]; exact e), by rw [e4]; exact h5, fun i x hi e => by rw [ok', ok', ok']; exact h6 i x hi (by rw [← e4]; exact e), by rw [e4]; exact h7, fun i x b hi q1 q2 => ?_, fun b q => by rw [ip]; exact hw b q⟩
  rw [ip]
  rw [e4] at q1
  by_cases q : x = a
  · rw [q] at q2; exact ha b q2
  · rw [ho x q] at q2; exact h8 i x b hi q1 q2
