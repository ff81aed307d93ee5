/-! both machines: the ends of a try -/
def EXB (nm : Nat → Nat → Prop) (s : CS) (r : RS) (mu : Nat → Nat) (AL : Als) (h : Nat) (c : List Ent) (n : Int) : Prop := s.i 72 = -1 ∧ (MVS s r h ∧ MTR s r ∧ ∀ k l : Nat, nm k l → s.a 59 k = r.a 84 l) ∧ DYN s r mu AL c n ∧ TLR s r
/-- states that differ in ways and places alone -/
def WPL (A S : CS) (R W : RS) : Prop := (∀ j : Nat, j ≠ 66 → j ≠ 73 → j ≠ 74 → j ≠ 75 → S.i j = A.i j) ∧ S.a = A.a ∧ (S.r = A.r ∧ S.o = A.o ∧ S.ot = A.ot ∧ S.oa = A.oa) ∧ (∀ j : Nat, j ≠ 92 → j < 110 ∨ 114 < j → W.i j = R.i j) ∧ W.a = R.a
theorem WPL.tlv {A S : CS} {R W : RS} {mu : Nat → Nat} {b : Nat} (w : WPL A S R W) (t : TLV A R mu b) : TLV S W mu b := by
  obtain ⟨ei, ea, ⟨a1, a2, a3, a4⟩, gi, ga⟩ := w
  unfold TLV THG inP at *
  rw [a1, a2, a4, ga, gi 85 (by decide) (by omega), gi 3 (by decide) (by omega)]
  exact t
theorem WPL.feq {A S : CS} {R W : RS} {mu : Nat → Nat} {c : List Ent} {m : Int} (w : WPL A S R W) : FEQ A S R W mu mu c m := by
  obtain ⟨ei, ea, ⟨a1, a2, a3, a4⟩, gi, ga⟩ := id w
  exact ⟨fun i f _ hf => ⟨by rw [a1]; exact hf, by rw [a2], by rw [a3]⟩, fun b _ t => ⟨w.tlv t, rfl, by rw [ga]⟩, ⟨by rw [ea], by rw [ga], by rw [ga], by rw [ga], by rw [ga]⟩, fun j k _ _ _ => by rw [ga], fun a _ => ⟨fun k _ => by rw [ea], fun l _ => by rw [ga]⟩, fun j _ => by rw [ga]⟩
theorem EXB.wpl {nm : Nat → Nat → Prop} {A S : CS} {R W : RS} {mu : Nat → Nat} {AL : Als} {h : Nat} {c : List Ent} {n : Int} (w : WPL A S R W) (b : EXB nm A R mu AL h c n) : EXB nm S W mu AL h c n := by
  have feq : FEQ A S R W mu mu c (R.i 97).toInt := w.feq
  obtain ⟨ei, ea, ⟨a1, a2, a3, a4⟩, gi, ga⟩ := id w
  obtain ⟨m1, ⟨m5, m6, m7⟩, ⟨⟨d1, d2, d3, ⟨d4, d5⟩, d6, d7⟩, o⟩, t⟩ := b
  have ei' : ∀ j : Nat, j < 66 ∨ (66 < j ∧ j < 73) → S.i j = A.i j := fun j hj => ei j (by omega) (by omega) (by omega) (by omega)
  have gi' : ∀ j : Nat, j < 92 ∨ (92 < j ∧ j < 110) → W.i j = R.i j := fun j hj => gi j (by omega) (by omega)
  refine ⟨(ei' 72 (by omega)).trans m1, ⟨m5.of (ei' 65 (by omega)) (by rw [ea]) (gi' 93 (by omega)) (by rw [ga]), m6.of (ei' 69 (by omega)) (ei' 70 (by omega)) (by rw [ea]) (gi' 80 (by omega)) (gi' 81 (by omega)) (by rw [ga]) (by rw [ga]), by rw [ea, ga]; exact m7⟩, ⟨⟨by rw [gi' 97 (by omega)]; exact d1.of feq, by rw [ei' 67 (by omega), gi' 99 (by omega)]; exact d2, by rw [ei' 71 (by omega), hS_of (r := R) (R := W) (by rw [ga]) 8]; exact d3, by rw [gi' 85 (by omega), gi' 80 (by omega)]; exact ⟨d4, d5⟩, ?_, (gi 115 (by decide) (by omega)).trans d7⟩, ?_⟩, t.of (fun j hj => ei' j (by omega)) (fun k _ => by rw [ea]) ⟨fun j hj => gi' j (by omega), fun k _ => by rw [ga]⟩⟩
  · unfold MUI at *
    rw [gi' 85 (by omega)]
    exact d6
  · obtain ⟨o1, o2, o3, o4, o5, o6⟩ := o
    unfold OPW
    rw [ei' 68 (by omega), gi' 95 (by omega), ea, ga]
    exact ⟨o1, o2, o3, o4, o5, o6.of (fun k _ => by rw [ga])⟩
theorem MCO.exb {nm : Nat → Nat → Prop} {s : CS} {r : RS} {mu : Nat → Nat} {AL : Als} {h p q : Nat} {c : List Ent} {n : Int} (m : MCO nm s r h p q) (d : DYN s r mu AL c n) (t : TLR s r) : EXB nm s r mu AL h c n := ⟨m.1.1.1, ⟨m.2.1, m.2.2.1, m.2.2.2⟩, d, t⟩
theorem EXB.syn {nm : Nat → Nat → Prop} {s : CS} {r : RS} {mu : Nat → Nat} {AL : Als} {h p q : Nat} {c : List Ent} {n : Int} (b : EXB nm s r mu AL h c n) (h73 : s.i 73 = 0) (h66 : (s.i 66).toInt = (p : Int)) (h92 : (r.i 92).toInt = (q : Int)) : SYN nm s r mu AL h p q c n := ⟨⟨⟨⟨b.1, h73⟩, h66, h92⟩, b.2.1⟩, b.2.2⟩
/-- a jump that leaves no more arrives -/
theorem ex_arr {N H : Nat} (hN : 10000000000 ≤ N) {D : Nat → List Nat} {T : Int32 × CS} {s0 s : CS} {nm : Nat → Nat → Prop} {AL : Als} {mu : Nat → Nat} {h p q : Nat} {c : List Ent} {r : RS} {x : Int32} {n : Int} (cr : CRN N H D T s0 s x) (hx : x.toInt < 4000000) (d22 : frs c ≤ 22) (b : EXB nm s r mu AL h c n) (e73 : s.i 73 = 1) (t32 : (s.i 75 - s.i 75 / 32 * 32).toInt = (frs c : Int)) (ep : (cTg s (s.i 75 / 32)).toInt = (p : Int)) (eq : (r.i 92).toInt = (q : Int)) : ∃ S : CS, CRN N H D T s0 S (x + 1) ∧ SYN nm S r mu AL h p q c n := by
  obtain ⟨d1, ⟨d2, d2'⟩, -⟩ := b.2.2.1.1
  obtain ⟨S, e1, -, e3⟩ := cl_arr hN cr hx b.1 (by rw [e73]; decide) d2 d22 d1 (Or.inr (fun z => by
    unfold LTG at z
    have := lt_int z
    omega))
  unfold f_X3_arrive f_X3_arrive_48 at e1
  rw [if_neg (by rw [e73]; decide), if_neg (by rw [e73]; decide), if_neg (by rw [e73]; decide)] at e1
  have eS : S = CS.setI (CS.setI s 66 (gAt (s.a 17) 1024 (s.i 75 / 32))) 73 0 := (congrArg Prod.snd (Option.some.inj e1)).symm
  refine ⟨S, e3, (b.wpl (S := S) (W := r) ?_).syn ?_ ?_ eq⟩
  · rw [eS]
    exact ⟨fun j a b _ _ => by rw [ci_ne _ _ _ b, ci_ne _ _ _ a], rfl, ⟨rfl, rfl, rfl, rfl⟩, fun _ _ _ => rfl, rfl⟩
  · rw [eS, ci_at]
  · rw [eS, ci_ne _ _ _ (by decide), ci_at]
    exact ep
/-- the entry on top goes, with no more -/
theorem blw_ex {nm : Nat → Nat → Prop} {s : CS} {r : RS} {mu : Nat → Nat} {AL : Als} {h f : Nat} {e : Ent} {c : List Ent} (tp : TOPW s r e c f) (bl : BLW nm s r mu AL h c 0) (h73 : ¬ s.i 73 = 4) : EXB nm (CS.setI s 67 (s.i 67 - 1)) (RS.setI r 99 (r.i 99 - 1)) mu AL h c 0 := by
  obtain ⟨⟨t1, t2⟩, -, t7, -⟩ := tp
  obtain ⟨b1, ⟨b2, b3, b4⟩, b5, b6, b7, ⟨b8, b9⟩, b10, b11, b12⟩ := bl
  obtain ⟨x1, x2⟩ := idx1 (r := r) (k := c.length) (by rw [t7]; omega)
  obtain ⟨S, hS'⟩ : ∃ S, S = CS.setI s 67 (s.i 67 - 1) := ⟨_, rfl⟩
  obtain ⟨R, hR⟩ : ∃ R, R = RS.setI r 99 (r.i 99 - 1) := ⟨_, rfl⟩
  have ci : ∀ j : Nat, j ≠ 67 → S.i j = s.i j := fun j a => by rw [hS', ci_ne _ _ _ a]
  have ri : ∀ j : Nat, j ≠ 99 → R.i j = r.i j := fun j a => by rw [hR, ri_ne a]
  have sa : S.a = s.a ∧ S.r = s.r ∧ S.w = s.w ∧ S.o = s.o ∧ S.ot = s.ot ∧ S.oa = s.oa := by
    rw [hS']
    exact ⟨rfl, rfl, rfl, rfl, rfl, rfl⟩
  have ra : R.a = r.a := by
    rw [hR]
    rfl
  have s67 : (S.i 67).toInt = (frs c : Int) := by
    rw [hS', ci_at]
    exact sub_n1 t1
  have r99 : (R.i 99).toInt = (c.length : Int) := by
    rw [hR, ri_at]
    exact x1
  rw [← hS', ← hR]
  clear hS' hR
  obtain ⟨a1, a2, a3, a4, a5, a6⟩ := sa
  have tlv : ∀ b : Nat, TLV s r mu b → TLV S R mu b := fun b t => by
    unfold TLV THG inP at *
    rw [a2, a4, a6, ra, ri 85 (by decide), ri 3 (by decide)]
    exact t
  have feq : FEQ s S r R mu mu c (r.i 97).toInt := ⟨fun i f _ hf => ⟨by rw [a2]; exact hf, by rw [a4], by rw [a5]⟩, fun b _ t => ⟨tlv b t, rfl, by rw [ra]⟩, ⟨by rw [a1], by rw [ra], by rw [ra], by rw [ra], by rw [ra]⟩, fun j k _ _ _ => by rw [ra], fun a _ => ⟨fun k _ => by rw [a1], fun l _ => by rw [ra]⟩, fun j _ => by rw [ra]⟩
  refine ⟨(ci 72 (by decide)).trans b1, ⟨(b2.mvs h73).of (ci 65 (by decide)) (by rw [a1]) (ri 93 (by decide)) (by rw [ra]), b3.of (ci 69 (by decide)) (ci 70 (by decide)) (by rw [a1]) (ri 80 (by decide)) (ri 81 (by decide)) (by rw [ra]) (by rw [ra]), fun k l hk => by rw [a1, ra]; exact b4 k l hk⟩, ⟨⟨by rw [ri 97 (by decide)]; exact b5.of feq, ⟨s67, r99⟩, by rw [ci 71 (by decide), hS_of (r := r) (R := R) (by rw [ra]) 8]; exact b7, by rw [ri 85 (by decide), ri 80 (by decide)]; exact ⟨b8, b9⟩, ?_, (ri 115 (by decide)).trans b11⟩, ?_⟩, b12.of (fun j hj => ci j (by omega)) (fun k _ => by rw [a1]) ⟨fun j hj => ri j (by omega), fun k _ => by rw [ra]⟩⟩
  · unfold MUI at *
    rw [ri 85 (by decide)]
    exact b10
  · obtain ⟨o1, o2, o3, o4, o5, o6⟩ := b6
    unfold OPW
    rw [ci 68 (by decide), ri 95 (by decide), a1, ra]
    exact ⟨o1, o2, o3, o4, o5, o6.of (fun k _ => by rw [ra])⟩
/-- the exit of a try -/
def XIT (s0 : CS) (r0 : RS) (AL : Als) (T : Int32) (h w : Nat) (e : Ent) (c : List Ent) : Prop := ((T - T / 32 * 32).toInt = (frs c : Int) ∧ (T / 32).toInt = (e.x : Int) + 2) ∧ ((r0.a 31 e.y).toInt < 0 → ∃ p q w' : Nat, (cTg s0 (T / 32)).toInt = (p : Int) ∧ (r0.a 32 e.y).toInt = (q : Int) ∧ AL p q h w' 0 c ∧ w' ≤ w) ∧ (FCP r0 AL e.y → ∃ p q w' : Nat, (cTg s0 (T / 32)).toInt = (p : Int) ∧ (r0.a 32 e.y).toInt = (q : Int) ∧ AL p q e.h w' 0 c ∧ w' ≤ e.u)
/-- behind body or catch: its finally, or the exit -/
theorem go_on {N H n m : Nat} (hN : 10000000000 ≤ N) {D : Nat → List Nat} {T : Int32 × CS} {s0 : CS} {r0 : RS} {nm : Nat → Nat → Prop} {AL : Als} {s : CS} {V W : RS} {mu : Nat → Nat} {h f u w : Nat} {e : Ent} {c : List Ent} {x y : Int32} {U : Int32 × RS} (cr : CRN N H D T s0 s x) (rw0 : RFX r0 W) (tp : TOPW s W e c f) (bl : BLW nm s W mu AL h c 0) (eh : e.h ≤ h) (e73 : s.i 73 = 1) (e110 : W.i 110 = 0) (hfn : HFN s0 r0 AL e c u) (xit : XIT s0 r0 AL (s.i 75) h w e c) (hB : x.toInt + fps c + 1154 + u + w + 2 ≤ 3990 * (W.i 80).toInt + 10000 + u) (hu : u ≤ w) (hn : m < n) (run : f_X12_run_122 N m V = some U) (rf : RFX r0 V) (hy : y.toInt = (c.length : Int)) (st : (W.i 80).toInt ≤ 1000) (g : f_X12_goOn N W y = some V) : NXTW N H D T s0 r0 nm AL n U := by
  obtain ⟨⟨t32, tx⟩, xn, xf⟩ := xit
  have a17 : s.a 17 = s0.a 17 := cr.2.1.2.1 17 (by decide)
  have ec : cTg s = cTg s0 := by
    funext t
    unfold cTg
    rw [a17]
  have x0 := cr.2.2.1.1
  have h67 := tp.1.1
  have lt : LTG s := by
    unfold LTG
    rw [Int32.lt_iff_toInt_lt, t32, h67]
    omega
  unfold f_X12_goOn at g
  obtain ⟨P, p1, p2⟩ := hf_bind g
  have hfn' : HFN s W AL e c u := hfn.cg a17 rw0
  rcases hfn' with ⟨t1, t2⟩ | ⟨p, q, wf, t1, t2, t3, t4, t5⟩
  · rcases fi_r hy tp.2.2.2.2.1 p1 with ⟨z, eP⟩ | ⟨z, -⟩
    · obtain ⟨S, e1, e2, e3⟩ := cr.lv hN bl.1 (by rw [e73]; decide) (by omega)
      have eS := lo_p h67 (by have := tp.1.2; omega) tp.2.1.1 lt (Or.inr ⟨tp.2.1.2.1, t2 _ tp.2.1.2.2.1⟩) e1
      rw [eP, if_pos rfl] at p2
      have p3 := (hf_ite (hf_ite p2).2).2
      rw [cl_nat hy, cl_nat tp.2.2.2.2.1] at p3
      have eV := (Option.some.inj p3).symm
      have ex := blw_ex tp bl (by rw [e73]; decide)
      rw [← eS] at ex
      have r31 : r0.a 31 = W.a 31 := (rw0.2 31 (by decide)).symm
      have r32 : W.a 32 = r0.a 32 := rw0.2 32 (by decide)
      obtain ⟨p', q', w', y1, y2, y3, y4⟩ := xn (by rw [r31]; exact t1)
      have ex2 : EXB nm S V mu AL h c 0 := ex.wpl ⟨fun _ _ _ _ _ => rfl, rfl, ⟨rfl, rfl, rfl, rfl⟩, fun j a _ => by rw [eV, ri_ne a], by rw [eV]; rfl⟩
      have S75 : S.i 75 = s.i 75 := by rw [eS, ci_ne _ _ _ (by decide)]
      have V80 : V.i 80 = W.i 80 := by rw [eV, ri_ne (by decide), ri_ne (by decide)]
      have ecS : cTg S = cTg s0 := by
        funext t
        unfold cTg
        rw [eS]
        show gAt (s.a 17) 1024 t = _
        rw [a17]
      have xa1 : (x + 1).toInt = x.toInt + 1 := ad1 x0 (by omega)
      obtain ⟨S3, c3, sy⟩ := ex_arr (p := p') (q := q') hN e3 (by omega) (by have := tp.1.2; omega) ex2 (by rw [eS, ci_ne _ _ _ (by decide)]; exact e73) (by rw [S75]; exact t32) (by rw [S75, ecS]; exact y1) (by rw [eV, ri_at]; show (W.a 32 e.y).toInt = _; rw [r32]; exact y2)
      refine Or.inl ⟨m, S3, V, mu, h, p', q', w', 0, c, x + 1 + 1, hn, ⟨c3, rf, sy, BTP.no (by decide), y3, ?_⟩, run⟩
      rw [V80, ad1 (by omega) (by omega), xa1]
      show x.toInt + 1 + 1 + (fps c : Int) + w' + 0 ≤ _
      omega
    · omega
  · have pn : PNX s W mu AL e c := by
      refine Or.inl ⟨e73, e110, ⟨t32, tx⟩, fun fc => ?_⟩
      have fc' : FCP r0 AL e.y := by
        unfold FCP at *
        rw [rw0.2 21 (by decide)] at fc
        exact fc
      obtain ⟨p', q', w', y1, y2, y3, y4⟩ := xf fc'
      exact ⟨p', q', w', by rw [ec]; exact y1, by rw [rw0.2 32 (by decide)]; exact y2, y3, y4⟩
    obtain ⟨nz, S, e3, sy, i80⟩ := fin_in hN cr (by omega) (by rw [e73]; decide) lt tp bl eh t1 (t2 _ tp.2.1.2.2.1) t4 pn hy p1
    rw [if_neg nz] at p2
    have eV := Option.some.inj p2
    rw [eV] at sy i80
    refine Or.inl ⟨m, S, V, mu, e.h, p, q, wf, 0, _, x + 1, hn, ⟨e3, rf, sy, BTP.no (by decide), t4, ?_⟩, run⟩
    rw [i80, ad1 x0 (by omega)]
    show x.toInt + 1 + ((fps c + 1152 : Nat) : Int) + wf + 0 ≤ _
    omega
