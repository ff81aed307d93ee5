/-! the class's machine: a free one, and what stays -/
theorem coa_new (s : CS) (t : Nat) {x : Nat} (h : x ≠ s.hs) : (CS.new s t).oa x = s.oa x := if_neg h
theorem NT.oa9 {s : CS} {x : Nat} (h : x < s.hs) : (NT s).oa x = s.oa x := by
  have e1 : x ≠ s.hs := by omega
  have e2 : x ≠ (CS.new s 4).hs := by rw [chs_new]; omega
  have e3 : x ≠ (CS.setK (CS.new (CS.new s 4) 3) s.hs 5).hs := by rw [chs_setK, chs_new, chs_new]; omega
  unfold NT
  rw [coa_setK, coa_new _ _ e3, coa_setK, coa_new _ _ e2, coa_new _ _ e1]
/-- what stays where one is looked for -/
def KEP (s R : CS) : Prop := (R.i = s.i ∧ R.a = s.a ∧ R.w = s.w ∧ R.r 61 = s.r 61) ∧ (∀ x : Nat, x < s.hs → R.o x = s.o x ∧ R.ot x = s.ot x ∧ R.oa x = s.oa x) ∧ ∀ j x : Nat, s.r 62 j = some x → R.r 62 j = some x
theorem KEP.nt (s : CS) : KEP s (NT s) := ⟨⟨NT.i, NT.a, NT.w, by rw [NT.r]⟩, fun x hx => ⟨(NT.o hx).1, (NT.o hx).2.2, NT.oa9 hx⟩, fun j x h => by rw [NT.r]; exact h⟩
theorem hd_new {s : CS} (hr : REFS s) : ¬ HELD s s.hs := fun ⟨i, a, _, h2, h3, h4⟩ => by
  obtain ⟨j, j1, j2⟩ := hr.2.2.2.2.2.2.2.1 i a s.hs h2 h3 h4
  have := hr.1 s.hs (hr.2.2.2.2.2.1 j s.hs j1 j2).1.1
  omega
theorem fr_no {N H : Nat} (hN : 1000 ≤ N) {s : CS} (hr : REFS s) (hm : ROOM H s) : ∀ (n : Nat) (x1 : Int32) (R : Option Nat × CS), f_X3_freeThrown_2 N n s x1 = some R → ∃ b : Nat, R.1 = some b ∧ ¬ HELD s b ∧ KEP s R.2
  | 0, _, _, e => by cases e
  | n + 1, x1, R, e => by
    have e' : b_X3_freeThrown_2 N (f_X3_freeThrown_2 N n) s x1 = some R := e
    unfold b_X3_freeThrown_2 at e'
    by_cases c : (24 : Int32) ≤ x1
    · rw [if_pos c, e_init, ob_some] at e'
      rw [← Option.some.inj e']
      exact ⟨s.hs, rfl, hd_new hr, KEP.nt s⟩
    rw [if_neg c] at e'
    obtain ⟨hib, e'⟩ := hf_ite e'
    obtain ⟨k, hk⟩ : ∃ k : Nat, x1.toInt = (k : Int) := ⟨x1.toInt.toNat, by have := hib.1; omega⟩
    have k24 : k < 24 := by have := hib.2; omega
    rw [cl_nat hk] at e'
    cases hf : s.r 62 k with
    | none =>
      rw [hf] at e'
      have e2 : ((f_X8_init N (CS.new s 4) (CS.hs s)).bind fun p11 => if ib x1 24 then if oK p11.2 (CS.hs s) 2 then oCase (CS.r (CS.setR p11.2 62 k (some (CS.hs s))) 62 k) none (fun a18 => (f_X3_isHeld N (CS.setR p11.2 62 k (some (CS.hs s))) a18).bind fun p19 => (if p19.1 = 0 then oCase (CS.r p19.2 62 k) (some (none, p19.2)) (fun a25 => some ((some a25), p19.2)) else f_X3_freeThrown_2 N n p19.2 (x1 + 1))) else none else none) = some R := e'
      rw [e_init, ob_some] at e2
      have e3 := (hf_ite (hf_ite e2).2).2
      have hnp := NPR.new hr hm (m := k) k24 hf
      obtain ⟨V, hV⟩ : ∃ V, V = CS.setR (NT s) 62 k (some s.hs) := ⟨_, rfl⟩
      have v62 : V.r 62 k = some s.hs := by rw [hV, cr_at]; exact if_pos rfl
      have kv : KEP s V := by
        have z := KEP.nt s
        refine ⟨⟨?_, ?_, ?_, ?_⟩, fun x hx => ?_, fun j x h => ?_⟩
        · rw [hV, ci_setR]; exact z.1.1
        · rw [hV, ca_setR]; exact z.1.2.1
        · rw [hV, cw_setR]; exact z.1.2.2.1
        · rw [hV, cr_ne _ _ _ _ (by decide)]; exact z.1.2.2.2
        · rw [hV, co_setR, cot_setR, coa_setR]; exact z.2.1 x hx
        · rw [hV, cr_at, NT.r]
          exact (if_neg (fun y => by rw [y, hf] at h; cases h) : va_up (s.r 62) k (some s.hs) j = s.r 62 j).trans h
      have e4 : oCase (V.r 62 k) none (fun a18 => (f_X3_isHeld N V a18).bind fun p19 => (if p19.1 = 0 then oCase (CS.r p19.2 62 k) (some (none, p19.2)) (fun a25 => some ((some a25), p19.2)) else f_X3_freeThrown_2 N n p19.2 (x1 + 1))) = some R := by
        rw [hV]
        exact e3
      rw [← hV] at hnp
      clear hV
      rw [v62] at e4
      obtain ⟨p, ep, e5⟩ := hf_bind e4
      by_cases z : p.1 = 0
      · obtain ⟨p2, -⟩ := hd_no0 ep z
        rw [if_pos z, p2, v62] at e5
        have e6 : some (some s.hs, V) = some R := e5
        rw [← Option.some.inj e6]
        exact ⟨s.hs, rfl, hd_new hr, kv⟩
      · exfalso
        obtain ⟨i, a, q1, q2, q3, q4⟩ := (ok_at (q_held hN hnp.1 s.hs) ep).2 z
        rw [kv.1.2.2.2] at q3
        have ha := hr.2.2.2.1 i a q2 q3
        have la := hr.1 a ha.1
        rw [(kv.2.1 a la).2.1] at q4
        have q1' : (i : Int) < dpI s := by
          unfold dpI at *
          rw [kv.1.1] at q1
          exact q1
        exact hd_new hr ⟨i, a, q1', q2, q3, q4⟩
    | some b =>
      rw [hf] at e'
      have e2 : ((f_X3_isHeld N s b).bind fun p28 => (if p28.1 = 0 then oCase (CS.r p28.2 62 k) (some (none, p28.2)) (fun a34 => some ((some a34), p28.2)) else f_X3_freeThrown_2 N n p28.2 (x1 + 1))) = some R := e'
      obtain ⟨p, ep, e3⟩ := hf_bind e2
      by_cases z : p.1 = 0
      · obtain ⟨p2, nh⟩ := hd_no0 ep z
        rw [if_pos z, p2, hf] at e3
        have e4 : some (some b, s) = some R := e3
        rw [← Option.some.inj e4]
        exact ⟨b, rfl, nh, ⟨rfl, rfl, rfl, rfl⟩, fun _ _ => ⟨rfl, rfl, rfl⟩, fun _ _ h => h⟩
      · have p2 := (ok_at (q_held hN hr b) ep).1
        rw [if_neg z, p2] at e3
        exact fr_no hN hr hm n (x1 + 1) R e3
