/-! both machines: behind a body: its finally, or none -/
theorem blw_pop {nm : Nat → Nat → Prop} {s : CS} {r : RS} {mu : Nat → Nat} {AL : Als} {h u f : Nat} {e : Ent} {c : List Ent} (tp : TOPW s r e c f) (bl : BLW nm s r mu AL h c 0) (w : WYS s r mu AL c h u (s.i 73) (s.i 74) (s.i 75) s.w (r.i 110) (r.i 111) (r.i 112) (r.i 113) (r.i 114)) : LVR nm (CS.setI s 67 (s.i 67 - 1)) (RS.setI r 99 (r.i 99 - 1)) mu AL h c 0 u := by
  obtain ⟨⟨t1, t2⟩, -, t7, -⟩ := tp
  obtain ⟨b1, ⟨b2, b3, b4⟩, b5, b6, b7, ⟨b8, b9⟩, b10, b11, b12⟩ := bl
  obtain ⟨x1, x2⟩ := idx1 (r := r) (k := c.length) (by rw [t7]; omega)
  obtain ⟨S, hS'⟩ : ∃ S, S = CS.setI s 67 (s.i 67 - 1) := ⟨_, rfl⟩
  obtain ⟨R, hR⟩ : ∃ R, R = RS.setI r 99 (r.i 99 - 1) := ⟨_, rfl⟩
  have ci : ∀ j : Nat, j ≠ 67 → S.i j = s.i j := fun j a => by rw [hS', ci_ne _ _ _ a]
  have ri : ∀ j : Nat, j ≠ 99 → R.i j = r.i j := fun j a => by rw [hR, ri_ne a]
  have sa : S.a = s.a ∧ S.r = s.r ∧ S.w = s.w ∧ S.o = s.o ∧ S.ot = s.ot ∧ S.oa = s.oa := by
    rw [hS']
    exact ⟨rfl, rfl, rfl, rfl, rfl, rfl⟩
  have ra : R.a = r.a := by
    rw [hR]
    rfl
  have s67 : (S.i 67).toInt = (frs c : Int) := by
    rw [hS', ci_at]
    exact sub_n1 t1
  have r99 : (R.i 99).toInt = (c.length : Int) := by
    rw [hR, ri_at]
    exact x1
  rw [← hS', ← hR]
  clear hS' hR
  obtain ⟨a1, a2, a3, a4, a5, a6⟩ := sa
  have tlv : ∀ b : Nat, TLV s r mu b → TLV S R mu b := fun b t => by
    unfold TLV THG inP at *
    rw [a2, a4, a6, ra, ri 85 (by decide), ri 3 (by decide)]
    exact t
  have feq : FEQ s S r R mu mu c (r.i 97).toInt := ⟨fun i f _ hf => ⟨by rw [a2]; exact hf, by rw [a4], by rw [a5]⟩, fun b _ t => ⟨tlv b t, rfl, by rw [ra]⟩, ⟨by rw [a1], by rw [ra], by rw [ra], by rw [ra], by rw [ra]⟩, fun j k _ _ _ => by rw [ra], fun a _ => ⟨fun k _ => by rw [a1], fun l _ => by rw [ra]⟩, fun j _ => by rw [ra]⟩
  refine ⟨(ci 72 (by decide)).trans b1, ⟨b2.of (ci 65 (by decide)) (by rw [a1]) (ri 93 (by decide)) (by rw [ra]) (fun z => by rw [ci 73 (by decide)] at z; exact z), b3.of (ci 69 (by decide)) (ci 70 (by decide)) (by rw [a1]) (ri 80 (by decide)) (ri 81 (by decide)) (by rw [ra]) (by rw [ra]), fun k l hk => by rw [a1, ra]; exact b4 k l hk⟩, ⟨⟨by rw [ri 97 (by decide)]; exact b5.of feq, ⟨s67, r99⟩, by rw [ci 71 (by decide), hS_of (r := r) (R := R) (by rw [ra]) 8]; exact b7, by rw [ri 85 (by decide), ri 80 (by decide)]; exact ⟨b8, b9⟩, ?_, (ri 115 (by decide)).trans b11⟩, ?_⟩, ⟨by decide, fun _ => rfl⟩, ?_, b12.of (fun j hj => ci j (by omega)) (fun k _ => by rw [a1]) ⟨fun j hj => ri j (by omega), fun k _ => by rw [ra]⟩⟩
  · unfold MUI at *
    rw [ri 85 (by decide)]
    exact b10
  · obtain ⟨o1, o2, o3, o4, o5, o6⟩ := b6
    unfold OPW
    rw [ci 68 (by decide), ri 95 (by decide), a1, ra]
    exact ⟨o1, o2, o3, o4, o5, o6.of (fun k _ => by rw [ra])⟩
  · rw [ci 73 (by decide), ci 74 (by decide), ci 75 (by decide), a3, ri 110 (by decide), ri 111 (by decide), ri 112 (by decide), ri 113 (by decide), ri 114 (by decide)]
    exact w.of (by rw [a1]) (by rw [ra]) (by rw [ra]) (by rw [ra]) (fun b _ t => ⟨tlv b t, rfl⟩)
theorem fop {N H n0 : Nat} (hN : 10000000000 ≤ N) {D : Nat → List Nat} {T : Int32 × CS} {s0 s : CS} {nm : Nat → Nat → Prop} {AL : Als} {mu : Nat → Nat} {h u f : Nat} {e : Ent} {c : List Ent} {r V : RS} {x y : Int32} {B : Int} (hk : e.k = 1 ∨ e.k = 2) (cr : CRN N H D T s0 s x) (tp : TOPW s r e c f) (bl : BLW nm s r mu AL h c 0) (eh : e.h ≤ h) (wy : WYS s r mu AL (e :: c) h u (s.i 73) (s.i 74) (s.i 75) s.w (r.i 110) (r.i 111) (r.i 112) (r.i 113) (r.i 114)) (nd : s.i 73 = 1 ∨ s.i 73 = 2 → ¬ (r.i 112).toInt = (c.length : Int) + 1) (ty : HFN s r AL e c u) (hB : x.toInt + fps c + 1154 + u + 1 ≤ B) (hB4 : B ≤ 4000000) (hy : y.toInt = (c.length : Int)) (g : LVF N (f_X12_leave_0 N n0) r V y) : STP N H D T s0 nm AL h u V s r c n0 B := by
  have x0 := cr.2.2.1.1
  have h67 := tp.1.1
  have lt := ltg_of (by omega) wy nd (by rw [h67, frs_up (by omega)]; omega)
  obtain ⟨P, p1, p2⟩ := g
  rcases ty with ⟨t1, t2⟩ | ⟨p, q, w, t1, t2, t3, t4, t5⟩
  · rcases fi_r hy tp.2.2.2.2.1 p1 with ⟨z, eP⟩ | ⟨z, -⟩
    · rcases p2 with ⟨-, p2⟩ | ⟨z2, -⟩
      · obtain ⟨S, e1, e2, e3⟩ := cr.lv hN bl.1 wy.hw.2.2.1 (by omega)
        have eS := lo_p h67 (by have := tp.1.2; omega) tp.2.1.1 lt (Or.inr ⟨tp.2.1.2.1, t2 _ tp.2.1.2.2.1⟩) e1
        rw [eP] at p2
        refine Or.inr ⟨S, _, mu, 0, x + 1, e3, by rw [eS]; exact blw_pop tp bl (wy.tl nd (fun _ z' => by omega)).1, p2, by rw [ad1 x0 (by omega)]; omega, by rw [eS]; exact ⟨rfl, rfl, rfl⟩, ⟨fun j hj => ri_ne (by omega), fun _ _ => rfl⟩, ri_ne (by decide)⟩
      · rw [eP] at z2
        exact absurd rfl z2
    · omega
  · obtain ⟨nz, S, e3, sy, i80⟩ := fin_in hN cr (by omega) wy.hw.2.2.1 lt tp bl eh t1 (t2 _ tp.2.1.2.2.1) t4 (Or.inr (fun fc => (wy.tl nd (fun _ _ => fc)).2 hk)) hy p1
    rcases p2 with ⟨z, -⟩ | ⟨-, eV⟩
    · exact absurd z nz
    · rw [eV] at sy i80
      refine Or.inl ⟨i80, Or.inl ⟨S, x + 1, mu, e.h, p, q, w, _, e3, sy, t4, ?_⟩⟩
      rw [ad1 x0 (by omega)]
      show x.toInt + 1 + ((fps c + 1152 : Nat) : Int) + w ≤ B
      omega
/-- the class behind a body: no throw -/
theorem cfb_f {s : CS} {f : Nat} : (∀ j : Nat, j ≠ 68 → (cFb s f).i j = s.i j) ∧ (cFb s f).i 68 = s.o f 3 ∧ ((cFb s f).a = s.a ∧ (cFb s f).r = s.r ∧ (cFb s f).w = s.w ∧ (cFb s f).ot = s.ot ∧ (cFb s f).oa = s.oa) ∧ (∀ g : Nat, g ≠ f → (cFb s f).o g = s.o g) ∧ (cFb s f).o f 0 = 2 ∧ ∀ j : Nat, j ≠ 0 → (cFb s f).o f j = s.o f j := by
  unfold cFb
  refine ⟨fun j a => ?_, ?_, ⟨rfl, rfl, rfl, rfl, rfl⟩, fun g hg => ?_, ?_, fun j a => ?_⟩
  · rw [ci_setO, ci_ne _ _ _ a]
  · rw [ci_setO, ci_at]
  · rw [setO_ne hg, co_setI]
  · rw [setO_at]
  · rw [setO_k a, co_setI]
/-- a throw: the handler begins -/
theorem cbt_f {s : CS} {f b : Nat} {t : Int32} : (∀ j : Nat, j ≠ 65 → j ≠ 66 → j ≠ 68 → j ≠ 73 → (cBg (cFt s f b) f t).i j = s.i j) ∧ ((cBg (cFt s f b) f t).i 65 = s.o f 2 ∧ (cBg (cFt s f b) f t).i 66 = cTg s t ∧ (cBg (cFt s f b) f t).i 68 = s.o f 3 ∧ (cBg (cFt s f b) f t).i 73 = 0) ∧ ((cBg (cFt s f b) f t).a = s.a ∧ (cBg (cFt s f b) f t).r = s.r ∧ (cBg (cFt s f b) f t).w = s.w ∧ (cBg (cFt s f b) f t).oa = s.oa) ∧ (∀ g : Nat, g ≠ f → (cBg (cFt s f b) f t).o g = s.o g ∧ (cBg (cFt s f b) f t).ot g = s.ot g) ∧ ((cBg (cFt s f b) f t).o f 0 = 2 ∧ (∀ j : Nat, j ≠ 0 → (cBg (cFt s f b) f t).o f j = s.o f j) ∧ (cBg (cFt s f b) f t).ot f = some b) ∧ (cFt s f b).o f 1 = s.o f 1 := by
  obtain ⟨c1, c2, ⟨c3, c4, c5, c6, c7⟩, c8, c9, c10⟩ := cfb_f (s := s) (f := f)
  obtain ⟨Y, hY⟩ : ∃ Y, Y = cFb s f := ⟨_, rfl⟩
  rw [← hY] at c1 c2 c3 c4 c5 c6 c7 c8 c9 c10
  have eF : cFt s f b = CS.setOt Y f (some b) := by
    rw [hY]
    rfl
  rw [eF]
  clear hY eF
  unfold cBg
  refine ⟨fun j q1 q2 q3 q4 => ?_, ⟨?_, ?_, ?_, ?_⟩, ⟨?_, ?_, ?_, ?_⟩, fun g hg => ⟨?_, ?_⟩, ⟨?_, fun j q => ?_, ?_⟩, ?_⟩
  · rw [ci_ne _ _ _ q4, ci_ne _ _ _ q2, ci_ne _ _ _ q1, ci_setOt, c1 j q3]
  · rw [ci_ne _ _ _ (by decide), ci_ne _ _ _ (by decide), ci_at, co_setOt, c10 2 (by decide)]
  · rw [ci_ne _ _ _ (by decide), ci_at, ca_setOt, c3]
    rfl
  · rw [ci_ne _ _ _ (by decide), ci_ne _ _ _ (by decide), ci_ne _ _ _ (by decide), ci_setOt, c2]
  · rw [ci_at]
  · rw [ca_setI, ca_setI, ca_setI, ca_setOt, c3]
  · rw [cr_setI, cr_setI, cr_setI, cr_setOt, c4]
  · rw [cw_setI, cw_setI, cw_setI, cw_setOt, c5]
  · rw [coa_setI, coa_setI, coa_setI, coa_setOt, c7]
  · rw [co_setI, co_setI, co_setI, co_setOt, c8 g hg]
  · rw [cot_setI, cot_setI, cot_setI, cot_ne _ _ _ hg, c6]
  · rw [co_setI, co_setI, co_setI, co_setOt, c9]
  · rw [co_setI, co_setI, co_setI, co_setOt, c10 j q]
  · rw [cot_setI, cot_setI, cot_setI, cot_at]
  · rw [co_setOt, c10 1 (by decide)]
