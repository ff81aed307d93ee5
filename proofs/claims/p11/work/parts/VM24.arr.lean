/-! both machines: a jump, a yield arrives; a run ends -/
theorem FRS.fr {s : CS} {r : RS} {mu : Nat → Nat} {AL : Als} : ∀ {c : List Ent} {m : Int}, FRS s r mu AL c m → ∀ i : Nat, i < frs c → ∃ f : Nat, s.r 61 i = some f
  | [], _, _, i, hi => absurd hi (Nat.not_lt_zero i)
  | e :: c, m, ⟨_, h⟩, i, hi => by
    have up : ∀ {m' : Int}, FRS s r mu AL c m' → (∃ f : Nat, s.r 61 (frs c) = some f) → ∃ f : Nat, s.r 61 i = some f := fun {m'} g ⟨f, hf⟩ => by
      by_cases z : i < frs c
      · exact FRS.fr g i z
      · have : frs (e :: c) ≤ frs c + 1 := by
          show frs c + (if e.k ≤ 3 then 1 else 0) ≤ frs c + 1
          by_cases q : e.k ≤ 3
          · rw [if_pos q]
            omega
          · rw [if_neg q]
            omega
        have e1 : i = frs c := by omega
        rw [e1]
        exact ⟨f, hf⟩
    rcases h with ⟨k0, a1, ⟨f, a2, a3⟩, a4⟩ | ⟨k1, a1, a2, ⟨f, a3, a4, a5, a6⟩, a7⟩ | ⟨k2, a1, a2, ⟨f, b, a3, a4⟩, a9⟩ | ⟨k3, a1, a2, ⟨f, a3, a4⟩, a5⟩ | ⟨k4, a1, m0, a2, a3⟩ | ⟨k5, a1, a2, a3⟩
    · exact up a4 ⟨f, a2.1⟩
    · exact up a7 ⟨f, a3.1⟩
    · exact up a9 ⟨f, a3.1⟩
    · exact up a5 ⟨f, a3.1⟩
    · rw [frs_eq (by omega)] at hi
      exact FRS.fr a3 i hi
    · rw [frs_eq (by omega)] at hi
      exact FRS.fr a3 i hi
/-- the class arrives: the top frame, if there is one, stays -/
theorem cl_arr {N H : Nat} (hN : 10000000000 ≤ N) {D : Nat → List Nat} {T : Int32 × CS} {s0 s : CS} {r : RS} {mu : Nat → Nat} {AL : Als} {c : List Ent} {m : Int} {x : Int32} (cr : CRN N H D T s0 s x) (hx : x.toInt < 4000000) (h72 : s.i 72 = -1) (h73 : ¬ s.i 73 = 0) (d67 : (s.i 67).toInt = (frs c : Int)) (d22 : frs c ≤ 22) (fr : FRS s r mu AL c m) (ng : frs c = 0 ∨ ¬ LTG s) : ∃ S : CS, f_X3_arrive N s = some ((), S) ∧ MR s S ∧ CRN N H D T s0 S (x + 1) := by
  obtain ⟨S, e1, e2, e3⟩ := cr.lv hN h72 h73 hx
  refine ⟨S, lo_arr ?_ e1, e2, e3⟩
  by_cases z : frs c = 0
  · left
    omega
  · right
    obtain ⟨f, hf⟩ := fr.fr (frs c - 1) (by omega)
    exact ⟨frs c - 1, f, by omega, by omega, hf, ng.resolve_left z⟩
/-- only the way and the place change -/
theorem SYN.mk1 {nm : Nat → Nat → Prop} {s : CS} {r : RS} {mu : Nat → Nat} {AL : Als} {h p q : Nat} {c : List Ent} {y z : Int32} (h72 : s.i 72 = -1) (mv : MVS s r h) (mt : MTR s r) (nn : ∀ k l : Nat, nm k l → s.a 59 k = r.a 84 l) (dy : DYN s r mu AL c 0) (tr : TLR s r) (hy : y.toInt = (p : Int)) (hz : z.toInt = (q : Int)) : SYN nm (CS.setI (CS.setI s 66 y) 73 0) (RS.setI r 92 z) mu AL h p q c 0 := by
  obtain ⟨⟨d1, d2, d3, d4, d5, d6⟩, o⟩ := dy
  have ci : ∀ j : Nat, j ≠ 66 → j ≠ 73 → (CS.setI (CS.setI s 66 y) 73 0).i j = s.i j := fun j a b => by rw [ci_ne _ _ _ b, ci_ne _ _ _ a]
  have ri : ∀ j : Nat, j ≠ 92 → (RS.setI r 92 z).i j = r.i j := fun j a => ri_ne a
  obtain ⟨S, hS⟩ : ∃ S, S = CS.setI (CS.setI s 66 y) 73 0 := ⟨_, rfl⟩
  obtain ⟨R, hR⟩ : ∃ R, R = RS.setI r 92 z := ⟨_, rfl⟩
  have sa : S.a = s.a ∧ S.r = s.r ∧ S.w = s.w ∧ S.o = s.o ∧ S.ot = s.ot ∧ S.oa = s.oa := by
    rw [hS]
    exact ⟨rfl, rfl, rfl, rfl, rfl, rfl⟩
  have ra : R.a = r.a := by
    rw [hR]
    rfl
  have s66 : (S.i 66).toInt = (p : Int) := by
    rw [hS, ci_ne _ _ _ (by decide), ci_at]
    exact hy
  have s73 : S.i 73 = 0 := by rw [hS, ci_at]
  have r92 : (R.i 92).toInt = (q : Int) := by
    rw [hR, ri_at]
    exact hz
  rw [← hS] at ci
  rw [← hR] at ri
  rw [← hS, ← hR]
  clear hS hR
  obtain ⟨a1, a2, a3, a4, a5, a6⟩ := sa
  have tlv : ∀ b : Nat, TLV s r mu b → TLV S R mu b := fun b t => by
    unfold TLV THG inP at *
    rw [a2, a4, a6, ra, ri 85 (by decide), ri 3 (by decide)]
    exact t
  have feq : FEQ s S r R mu mu c (r.i 97).toInt := ⟨fun i f _ hf => ⟨by rw [a2]; exact hf, by rw [a4], by rw [a5]⟩, fun b _ t => ⟨tlv b t, rfl, by rw [ra]⟩, ⟨by rw [a1], by rw [ra], by rw [ra], by rw [ra], by rw [ra]⟩, fun j k _ _ _ => by rw [ra], fun a _ => ⟨fun k _ => by rw [a1], fun l _ => by rw [ra]⟩, fun j _ => by rw [ra]⟩
  refine ⟨⟨⟨⟨(ci 72 (by decide) (by decide)).trans h72, s73⟩, s66, r92⟩, mv.of (ci 65 (by decide) (by decide)) (by rw [a1]) (ri 93 (by decide)) (by rw [ra]), mt.of (ci 69 (by decide) (by decide)) (ci 70 (by decide) (by decide)) (by rw [a1]) (ri 80 (by decide)) (ri 81 (by decide)) (by rw [ra]) (by rw [ra]), fun k l hk => by rw [a1, ra]; exact nn k l hk⟩, ⟨⟨by rw [ri 97 (by decide)]; exact d1.of feq, ⟨by rw [ci 67 (by decide) (by decide)]; exact d2.1, by rw [ri 99 (by decide)]; exact d2.2⟩, by rw [ci 71 (by decide) (by decide), hS_of (r := r) (R := R) (by rw [ra]) 8]; exact d3, by rw [ri 85 (by decide), ri 80 (by decide)]; exact d4, ?_, (ri 115 (by decide)).trans d6⟩, ?_⟩, tr.of (fun j hj => ci j (by omega) (by omega)) (fun k _ => by rw [a1]) ⟨fun j hj => ri j (by omega), fun k _ => by rw [ra]⟩⟩
  · unfold MUI at *
    rw [ri 85 (by decide)]
    exact d5
  · obtain ⟨o1, o2, o3, o4, o5, o6⟩ := o
    unfold OPW
    rw [ci 68 (by decide) (by decide), ri 95 (by decide), a1, ra]
    exact ⟨o1, o2, o3, o4, o5, o6.of (fun k _ => by rw [ra])⟩
/-- a jump arrives -/
theorem arr_1 {N H n0 : Nat} (hN : 10000000000 ≤ N) {D : Nat → List Nat} {T : Int32 × CS} {s0 s : CS} {nm : Nat → Nat → Prop} {AL : Als} {mu : Nat → Nat} {h u : Nat} {c : List Ent} {r V : RS} {x : Int32} {n : Int} {B : Int} (cr : CRN N H D T s0 s x) (d22 : frs c ≤ 22) (l : LVR nm s r mu AL h c n u) (e73 : s.i 73 = 1) (e110 : r.i 110 = 1) {p q w : Nat} (t32 : (s.i 75 - s.i 75 / 32 * 32).toInt = (frs c : Int)) (d112 : (r.i 112).toInt = (c.length : Int)) (ep : (cTg s (s.i 75 / 32)).toInt = (p : Int)) (eq : (r.i 111).toInt = (q : Int)) (al : AL p q h w 0 c) (hw : w ≤ u) (hB : x.toInt + fps c + u + 1 ≤ B) (hB4 : B ≤ 4000000) (g : f_X12_leave_0 N n0 r = some V) : LVO N H D T s0 nm AL V (r.i 80) B := by
  obtain ⟨l1, ⟨l2, l3, l4⟩, l5, ⟨l7, l8⟩, l9, l10⟩ := l
  obtain ⟨d1, ⟨d2, d2'⟩, -⟩ := id l5.1
  have nz : n = 0 := l8 (by rw [e73]; decide)
  rw [nz] at l5
  obtain ⟨S, e1, -, e3⟩ := cl_arr hN cr (by omega) l1 (by rw [e73]; decide) d2 d22 d1 (Or.inr (fun z => by
    unfold LTG at z
    have := lt_int z
    omega))
  cases n0 with
  | zero => cases g
  | succ n0 =>
    have eV := lv_g1 e110 (by rw [Int32.le_iff_toInt_le]; omega) g
    unfold f_X3_arrive f_X3_arrive_48 at e1
    rw [if_neg (by rw [e73]; decide), if_neg (by rw [e73]; decide), if_neg (by rw [e73]; decide)] at e1
    have eS : S = CS.setI (CS.setI s 66 (gAt (s.a 17) 1024 (s.i 75 / 32))) 73 0 := (congrArg Prod.snd (Option.some.inj e1)).symm
    have sy : SYN nm S V mu AL h p q c 0 := by
      rw [eS, eV]
      exact SYN.mk1 l1 (l2.mvs (by rw [e73]; decide)) l3 l4 l5 l10 ep eq
    have x0 := cr.2.2.1.1
    refine ⟨by rw [eV, ri_ne (by decide)], Or.inl ⟨S, x + 1, mu, h, p, q, w, c, e3, sy, al, ?_⟩⟩
    rw [ad1 x0 (by omega)]
    omega
/-- a run ends: a return, a throw -/
theorem arr_E {N H n0 : Nat} (hN : 10000000000 ≤ N) {D : Nat → List Nat} {T : Int32 × CS} {s0 s : CS} {nm : Nat → Nat → Prop} {AL : Als} {mu : Nat → Nat} {h u : Nat} {r V : RS} {x : Int32} {n : Int} {B : Int} (cr : CRN N H D T s0 s x) (l : LVR nm s r mu AL h [] n u) (e73 : s.i 73 = 3 ∨ s.i 73 = 4) (hx : x.toInt < 4000000) (g : f_X12_leave_0 N n0 r = some V) : LVO N H D T s0 nm AL V (r.i 80) B := by
  obtain ⟨l1, ⟨l2, ⟨⟨l3, -, l3'⟩, ⟨l3a, l3b, l3c⟩, l3d⟩, l4⟩, ⟨⟨d1, ⟨d2, d2'⟩, d3, ⟨d4, d5⟩, d6, d7⟩, -⟩, ⟨l7, l8⟩, l9, l10⟩ := l
  obtain ⟨S, e1, -, ⟨-, -, -, n1, e4⟩⟩ := cl_arr hN cr hx l1 (by rcases e73 with e | e <;> rw [e] <;> decide) d2 (Nat.zero_le _) d1 (Or.inl rfl)
  have ze : (0 : Int32).toInt = 0 := by decide
  have hs : ∀ v : Int32, hS (RS.setI (RS.setI r 115 v) 92 (-1)) 8 = hS r 8 := fun v => hS_of rfl 8
  cases n0 with
  | zero => cases g
  | succ n0 =>
    unfold f_X3_arrive at e1
    rcases l9 with ⟨a, -⟩ | ⟨a, -⟩ | ⟨a1, a2, a3, a4⟩ | ⟨a1, a2, a3, b, a4, a5, a6⟩
    · rcases e73 with e | e <;> rw [a] at e <;> exact absurd e (by decide)
    · rcases e73 with e | e <;> rw [a] at e <;> exact absurd e (by decide)
    · have eV := lv_gE (by rw [a2]; decide) (by rw [a2]; decide) (by rw [Int32.le_iff_toInt_le, ze]; exact Int.le_of_eq d2') g
      rw [if_pos a1] at e1
      have eS : S = CS.setI s 72 1 := (congrArg Prod.snd (Option.some.inj e1)).symm
      have s72 : S.i 72 = 1 := by rw [eS, ci_at]
      have v115 : V.i 115 = 2 := by
        rw [eV, ri_ne (by decide), ri_at]
        exact a2
      refine ⟨by rw [eV, ri_ne (by decide), ri_ne (by decide)], Or.inr ⟨S, pf_end (by rw [s72]; decide) e4, ?_, ⟨⟨?_, ?_, ?_⟩, ⟨⟨fun _ => v115, fun _ => s72⟩, fun z => ?_, fun z => ?_⟩, fun _ => ?_, fun k hk => ?_, ?_, fun z => ?_⟩, Or.inl ⟨s72, v115⟩⟩⟩
      · rw [eV, ri_at]
        decide
      · rw [eS, eV, ci_ne _ _ _ (by decide), ri_ne (by decide), ri_ne (by decide)]
        exact l3
      · rw [eS, eV, ci_ne _ _ _ (by decide), ri_ne (by decide), ri_ne (by decide)]
        exact l3a
      · rw [eV, ri_ne (by decide), ri_ne (by decide)]
        exact ⟨l3b, l3c⟩
      · rw [s72] at z
        exact absurd z (by decide)
      · rw [v115] at z
        exact absurd z (by decide)
      · rw [eS, eV, ci_ne _ _ _ (by decide), ri_ne (by decide), ri_ne (by decide)]
        exact a3
      · rw [eV, ri_ne (by decide), ri_ne (by decide)] at hk
        rw [eS, eV]
        exact l3d k hk
      · rw [eS, eV, ci_ne _ _ _ (by decide), hs]
        exact d3
      · rw [v115] at z
        exact absurd z (by decide)
    · have eV := lv_gE (by rw [a2]; decide) (by rw [a2]; decide) (by rw [Int32.le_iff_toInt_le, ze]; exact Int.le_of_eq d2') g
      rw [if_neg (by rw [a1]; decide), if_pos a1] at e1
      have eS : S = CS.setI s 72 2 := (congrArg Prod.snd (Option.some.inj e1)).symm
      have s72 : S.i 72 = 2 := by rw [eS, ci_at]
      have v115 : V.i 115 = 3 := by
        rw [eV, ri_ne (by decide), ri_at]
        exact a2
      have tb : (tps [] : Int) = 0 := rfl
      refine ⟨by rw [eV, ri_ne (by decide), ri_ne (by decide)], Or.inr ⟨S, pf_end (by rw [s72]; decide) e4, ?_, ⟨⟨?_, ?_, ?_⟩, ⟨⟨fun z => ?_, fun z => ?_⟩, fun _ => v115, fun _ => s72⟩, fun z => ?_, fun k hk => ?_, ?_, fun _ => ⟨b, mu b, ?_, ?_, ?_, ?_⟩⟩, Or.inr ⟨s72, v115⟩⟩⟩
      · rw [eV, ri_at]
        decide
      · rw [eS, eV, ci_ne _ _ _ (by decide), ri_ne (by decide), ri_ne (by decide)]
        exact l3
      · rw [eS, eV, ci_ne _ _ _ (by decide), ri_ne (by decide), ri_ne (by decide)]
        exact l3a
      · rw [eV, ri_ne (by decide), ri_ne (by decide)]
        exact ⟨l3b, l3c⟩
      · rw [s72] at z
        exact absurd z (by decide)
      · rw [v115] at z
        exact absurd z (by decide)
      · rw [v115] at z
        exact absurd z (by decide)
      · rw [eV, ri_ne (by decide), ri_ne (by decide)] at hk
        rw [eS, eV]
        exact l3d k hk
      · rw [eS, eV, ci_ne _ _ _ (by decide), hs]
        exact d3
      · rw [eS, cw_setI]
        exact a4
      · rw [eV, ri_ne (by decide), ri_ne (by decide)]
        exact a5
      · have := a6.2.1
        omega
      · rw [eS, eV]
        exact a6.1
