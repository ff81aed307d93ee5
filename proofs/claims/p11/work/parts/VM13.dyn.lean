/-! both machines: what the plain instructions leave, and the class's ticks -/
theorem CTK.in {nm : Nat → Nat → Prop} : ∀ {c : List Ent}, CTK nm c → ∀ e ∈ c, (∀ k : Nat, cel e k → k < 720 ∧ ∀ l : Nat, ¬ nm k l) ∧ ∀ l : Nat, slo e l → ∀ k : Nat, ¬ nm k l
  | [], _, e, he => by cases he
  | a :: c, ⟨h1, h2, h3⟩, e, he => by
    rcases List.mem_cons.mp he with z | z
    · rw [z]
      exact ⟨fun k hk => ⟨(h1 k hk).1, (h1 k hk).2.1⟩, fun l hl => (h2 l hl).1⟩
    · exact CTK.in h3 e z
theorem hS_of {r R : RS} (h : R.a 91 = r.a 91) : ∀ n : Nat, hS R n = hS r n
  | 0 => rfl
  | n + 1 => by
    show hS R n + R.a 91 n = hS r n + r.a 91 n
    rw [hS_of h n, h]
theorem TLV.of {s S : CS} {r R : RS} {mu : Nat → Nat} {b : Nat} (eo : S.o b = s.o b) (e1 : S.oa (b + 1) = s.oa (b + 1)) (e2 : S.oa (b + 2) = s.oa (b + 2)) (ep : inP s b → inP S b) (e85 : (r.i 85).toInt ≤ (R.i 85).toInt) (e86 : R.a 86 (mu b) = r.a 86 (mu b)) (e87 : R.a 87 (mu b) = r.a 87 (mu b)) (e88 : R.a 88 (mu b) = r.a 88 (mu b)) (e89 : ∀ i : Nat, i < 8 → R.a 89 (8 * mu b + i) = r.a 89 (8 * mu b + i)) (e90 : ∀ i : Nat, i < 8 → R.a 90 (8 * mu b + i) = r.a 90 (8 * mu b + i)) (e3 : R.i 3 = r.i 3) (t : TLV s r mu b) : TLV S R mu b := by
  obtain ⟨⟨t1, t2, t3⟩, t4, t5, t6⟩ := t
  refine ⟨⟨?_, ?_, fun i hi => ?_⟩, by omega, ep t5, by rw [e86, e3]; exact t6⟩
  · rw [eo, e86, e87, e88]
    exact t1
  · rw [e88]
    exact t2
  · rw [e88] at hi
    rw [e1, e2, e89 i (by omega), e90 i (by omega)]
    exact t3 i hi
theorem TLV.ex {nm : Nat → Nat → Prop} {s S : CS} {r R : RS} {mu : Nat → Nat} {b : Nat} (e : EXC nm s S) (g : EXV nm r R) (t : TLV s r mu b) : TLV S R mu b := by
  obtain ⟨e1, e2, ⟨er, ew, eo, et, ea⟩, e4⟩ := e
  obtain ⟨g1, g2, g3, g4⟩ := g
  have i85 : R.i 85 = r.i 85 := g1 85 (by decide) (by decide) (by decide) (by decide)
  refine TLV.of (by rw [eo]) (by rw [ea]) (by rw [ea]) (fun q => ?_) (by rw [i85]; exact Int.le_refl _) ?_ ?_ ?_ (fun i _ => ?_) (fun i _ => ?_) (g1 3 (by decide) (by decide) (by decide) (by decide)) t
  · unfold inP at *
    rw [er]
    exact q
  all_goals rw [g2 _ (by decide) (by decide) (by decide) (by decide)]
theorem TLR.of {s S : CS} {r R : RS} (h : TLR s r) (hi : ∀ j : Nat, j < 59 → S.i j = s.i j) (ha : ∀ k : Nat, k < 59 → S.a k = s.a k) (g : RFX r R) : TLR S R := by
  unfold TLR RSC TLD RB at *
  rw [hi 5 (by decide), hi 13 (by decide), hi 14 (by decide), ha 9 (by decide), ha 10 (by decide), ha 11 (by decide), ha 12 (by decide), g.1 2 (by decide), g.1 3 (by decide), g.1 8 (by decide), g.2 4 (by decide), g.2 5 (by decide), g.2 6 (by decide), g.2 7 (by decide)]
  exact h
theorem EXV.rfx {nm : Nat → Nat → Prop} {r R : RS} (g : EXV nm r R) : RFX r R := ⟨fun j hj => g.1 j (by omega) (by omega) (by omega) (by omega), fun k hk => g.2.1 k (by omega) (by omega) (by omega) (by omega)⟩
theorem TLR.ex {nm : Nat → Nat → Prop} {s S : CS} {r R : RS} (e : EXC nm s S) (g : EXV nm r R) (h : TLR s r) : TLR S R := h.of (fun j hj => e.1 j (by omega) (by omega) (by omega) (by omega)) (fun k hk => e.2.1 k (by omega) (by omega) (by omega)) g.rfx
theorem DY0.ex {nm : Nat → Nat → Prop} {s S : CS} {r R : RS} {mu : Nat → Nat} {AL : Als} {c : List Ent} {n : Int} (ck : CTK nm c) (e : EXC nm s S) (g : EXV nm r R) (d : DY0 s r mu AL c n) : DY0 S R mu AL c n := by
  have tl : ∀ b : Nat, TLV s r mu b → TLV S R mu b := fun b t => t.ex e g
  obtain ⟨e1, e2, ⟨er, ew, eo, et, ea⟩, e4⟩ := e
  obtain ⟨g1, g2, g3, g4⟩ := g
  obtain ⟨d1, ⟨d2, d3⟩, d5, ⟨d6, d7⟩, d8, d9⟩ := d
  have i85 : R.i 85 = r.i 85 := g1 85 (by decide) (by decide) (by decide) (by decide)
  have i97 : R.i 97 = r.i 97 := g1 97 (by decide) (by decide) (by decide) (by decide)
  have i99 : R.i 99 = r.i 99 := g1 99 (by decide) (by decide) (by decide) (by decide)
  have i115 : R.i 115 = r.i 115 := g1 115 (by decide) (by decide) (by decide) (by decide)
  have j67 : S.i 67 = s.i 67 := e1 67 (by decide) (by decide) (by decide) (by decide)
  have j71 : S.i 71 = s.i 71 := e1 71 (by decide) (by decide) (by decide) (by decide)
  have ra : ∀ k : Nat, k ≠ 82 → k ≠ 83 → k ≠ 84 → k ≠ 94 → R.a k = r.a k := g2
  have feq : FEQ s S r R mu mu c (r.i 97).toInt := by
    refine ⟨fun i f _ hf => ⟨by rw [er]; exact hf, by rw [eo], by rw [et]⟩, fun b _ t => ⟨tl b t, rfl, ?_⟩, ⟨e2 17 (by decide) (by decide) (by decide), ra 21 (by decide) (by decide) (by decide) (by decide), ra 23 (by decide) (by decide) (by decide) (by decide), ra 31 (by decide) (by decide) (by decide) (by decide), ra 32 (by decide) (by decide) (by decide) (by decide)⟩, fun j k h1 h2 _ => by rw [ra j (by omega) (by omega) (by omega) (by omega)], fun a ha => ⟨fun k hk => e4 k ((ck.in a ha).1 k hk).2, fun l hl => g3 l ((ck.in a ha).2 l hl)⟩, fun j _ => by rw [ra 98 (by decide) (by decide) (by decide) (by decide)]⟩
    rw [ra 87 (by decide) (by decide) (by decide) (by decide)]
  refine ⟨by rw [i97]; exact d1.of feq, ⟨by rw [j67]; exact d2, by rw [i99]; exact d3⟩, ?_, ⟨by rw [i85]; exact d6, by rw [i85]; omega⟩, ?_, by rw [i115]; exact d9⟩
  · rw [j71, hS_of (ra 91 (by decide) (by decide) (by decide) (by decide))]
    exact d5
  · unfold MUI at *
    rw [i85]
    exact d8
theorem RCO.of {r R : RS} : ∀ {c : List Ent} {o : Int}, RCO r c o → (∀ k : Nat, k < c.length → R.a 103 k = r.a 103 k) → RCO R c o
  | [], _, _, _ => True.intro
  | e :: c, o, ⟨h1, h2⟩, q => by
    have e1 := q c.length (Nat.lt_succ_self _)
    have q' : ∀ k : Nat, k < c.length → R.a 103 k = r.a 103 k := fun k hk => q k (Nat.lt_succ_of_lt hk)
    refine ⟨fun z => ?_, fun z => RCO.of (h2 z) q'⟩
    rw [e1]
    exact ⟨(h1 z).1, RCO.of (h1 z).2 q'⟩
theorem RCO.mono {r : RS} : ∀ {c : List Ent} {o o' : Int}, RCO r c o → o ≤ o' → RCO r c o'
  | [], _, _, _, _ => True.intro
  | e :: c, o, o', ⟨h1, h2⟩, q => ⟨fun z => ⟨Int.le_trans (h1 z).1 q, (h1 z).2⟩, fun z => RCO.mono (h2 z) q⟩
theorem OPW.tl {s : CS} {r : RS} {e : Ent} {c : List Ent} (h : OPW s r (e :: c)) (hk : ¬ e.k = 1) : OPW s r c := by
  obtain ⟨o1, o2, o3, o4, o5, o6⟩ := h
  have ho : ops (e :: c) = ops c := by
    show ops c + (if e.k = 1 then e.z else 0) = ops c
    rw [if_neg hk]
    rfl
  rw [ho] at o3 o4
  exact ⟨o1, o2, o3, o4, o5, o6.2 hk⟩
theorem DYN.ex {nm : Nat → Nat → Prop} {s S : CS} {r R : RS} {mu : Nat → Nat} {AL : Als} {c : List Ent} {n : Int} (ck : CTK nm c) (e : EXC nm s S) (g : EXV nm r R) (d : DYN s r mu AL c n) : DYN S R mu AL c n := by
  refine ⟨d.1.ex ck e g, ?_⟩
  obtain ⟨e1, e2, -, -⟩ := e
  obtain ⟨g1, g2, -, -⟩ := g
  obtain ⟨-, ⟨o1, o2, o3, o4, o5, o6⟩⟩ := d
  have i95 : R.i 95 = r.i 95 := g1 95 (by decide) (by decide) (by decide) (by decide)
  have j68 : S.i 68 = s.i 68 := e1 68 (by decide) (by decide) (by decide) (by decide)
  refine ⟨by rw [j68, i95]; exact o1, by rw [i95]; exact o2, by rw [i95]; exact o3, o4, fun k hk => ?_, by rw [i95]; exact o6.of (fun k _ => by rw [g2 103 (by decide) (by decide) (by decide) (by decide)])⟩
  rw [i95] at hk
  rw [e2 63 (by decide) (by decide) (by decide), g2 96 (by decide) (by decide) (by decide) (by decide)]
  exact o5 k hk
theorem WYS.ex {nm : Nat → Nat → Prop} {s S : CS} {r R : RS} {mu : Nat → Nat} {AL : Als} {c : List Ent} {h u : Nat} {way val T how x d value g0 : Int32} {t : Option Nat} (e : EXC nm s S) (g : EXV nm r R) (k : WYS s r mu AL c h u way val T t how x d value g0) : WYS S R mu AL c h u way val T t how x d value g0 := k.of (e.2.1 17 (by decide) (by decide) (by decide)) (g.2.1 21 (by decide) (by decide) (by decide) (by decide)) (g.2.1 31 (by decide) (by decide) (by decide) (by decide)) (g.2.1 23 (by decide) (by decide) (by decide) (by decide)) (fun b _ t => ⟨t.ex e g, rfl⟩)
/-- the class goes on from here, and comes to that end -/
def CRN (N H : Nat) (D : Nat → List Nat) (T : Int32 × CS) (s0 s : CS) (x : Int32) : Prop := MI H s D x.toInt ∧ MR s0 s ∧ (0 ≤ x.toInt ∧ x.toInt ≤ 4000000) ∧ ∃ n : Nat, f_X3_perform_110 N n s x = some T
theorem pf_end {N n : Nat} {s : CS} {x : Int32} {T : Int32 × CS} (h : ¬ s.i 72 = -1) (e : f_X3_perform_110 N n s x = some T) : T = (s.i 72, s) := by
  cases n with
  | zero => cases e
  | succ n =>
    have e' : b_X3_perform_110 N (f_X3_perform_110 N n) s x = some T := e
    unfold b_X3_perform_110 f_X3_perform_148 at e'
    by_cases c : (4000000 : Int32) ≤ x
    · rw [if_pos c] at e'
      exact (Option.some.inj e').symm
    · rw [if_neg c, if_neg h] at e'
      exact (Option.some.inj e').symm
theorem CRN.on {N H : Nat} (hN : 10000000000 ≤ N) {D : Nat → List Nat} {T : Int32 × CS} {s0 s : CS} {x : Int32} (h : CRN N H D T s0 s x) (h72 : s.i 72 = -1) (h73 : s.i 73 = 0) (hx : x.toInt < 4000000) : ∃ S : CS, f_X3_instruction N s = some ((), S) ∧ MR s S ∧ (S.i 72 = -1 → CRN N H D T s0 S (x + 1)) ∧ (¬ S.i 72 = -1 → T = (S.i 72, S)) := by
  obtain ⟨h1, h2, ⟨h3, h4⟩, n, h5⟩ := h
  have e4 : (4000000 : Int32).toInt = 4000000 := by decide
  cases n with
  | zero => cases h5
  | succ n =>
    have e' : b_X3_perform_110 N (f_X3_perform_110 N n) s x = some T := h5
    unfold b_X3_perform_110 at e'
    rw [if_neg (Int32.not_le.mpr (by rw [Int32.lt_iff_toInt_lt, e4]; exact hx)), if_pos h72, if_pos h73] at e'
    obtain ⟨R, e1, e2⟩ := hf_bind e'
    obtain ⟨q1, q2, -⟩ := ok_at (q_instr hN h3 h4 h1 h73) e1
    have ad : (x + 1).toInt = x.toInt + 1 := ad1 h3 (by omega)
    refine ⟨R.2, e1, q2, fun g => ⟨?_, h2.tr q2, ⟨by omega, by omega⟩, n, e2⟩, fun g => pf_end g e2⟩
    rw [ad]
    exact q1.resolve_right (fun z => z g)
theorem CRN.lv {N H : Nat} (hN : 10000000000 ≤ N) {D : Nat → List Nat} {T : Int32 × CS} {s0 s : CS} {x : Int32} (h : CRN N H D T s0 s x) (h72 : s.i 72 = -1) (h73 : ¬ s.i 73 = 0) (hx : x.toInt < 4000000) : ∃ S : CS, f_X3_leaveOne N s = some ((), S) ∧ MR s S ∧ CRN N H D T s0 S (x + 1) := by
  obtain ⟨h1, h2, ⟨h3, h4⟩, n, h5⟩ := h
  have e4 : (4000000 : Int32).toInt = 4000000 := by decide
  cases n with
  | zero => cases h5
  | succ n =>
    have e' : b_X3_perform_110 N (f_X3_perform_110 N n) s x = some T := h5
    unfold b_X3_perform_110 at e'
    rw [if_neg (Int32.not_le.mpr (by rw [Int32.lt_iff_toInt_lt, e4]; exact hx)), if_pos h72, if_neg h73] at e'
    obtain ⟨R, e1, e2⟩ := hf_bind e'
    obtain ⟨q1, q2⟩ := ok_at (q_leaveOne hN h3 h1 h73) e1
    have ad : (x + 1).toInt = x.toInt + 1 := ad1 h3 (by omega)
    refine ⟨R.2, e1, q2, ?_, h2.tr q2, ⟨by omega, by omega⟩, n, e2⟩
    rw [ad]
    exact q1
