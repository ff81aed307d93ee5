/-! both machines: a body is left -/
theorem HFN.cg {s S : CS} {r R : RS} {AL : Als} {e : Ent} {c : List Ent} {W : Nat} (e17 : S.a 17 = s.a 17) (g : RFX r R) (h : HFN s r AL e c W) : HFN S R AL e c W := by
  have ec : cTg S = cTg s := by
    funext t
    unfold cTg
    rw [e17]
  unfold HFN at *
  rw [ec, g.2 31 (by decide)]
  exact h
theorem HBD.cg {s S : CS} {r R : RS} {AL : Als} {e : Ent} {c : List Ent} {W : Nat} (e15 : S.a 15 = s.a 15) (e16 : S.a 16 = s.a 16) (e17 : S.a 17 = s.a 17) (g : RFX r R) (h : HBD s r AL e c W) : HBD S R AL e c W := by
  have ec : cTg S = cTg s := by
    funext t
    unfold cTg
    rw [e17]
  obtain ⟨n, p, h1, h2, h3⟩ := h
  refine ⟨n, p, h1, by rw [ec]; exact h2, ?_⟩
  rw [HRW.cg (S := S) (s := s) (r := r) (R := R) e15 e16 e17 (g.2 34 (by decide)) (g.2 35 (by decide)) (g.2 36 (by decide)) (g.2 37 (by decide)), g.2 30 (by decide)]
  exact h3
theorem TYC.cg {s S : CS} {r R : RS} {AL : Als} {W : Nat} (e15 : S.a 15 = s.a 15) (e16 : S.a 16 = s.a 16) (e17 : S.a 17 = s.a 17) (g : RFX r R) : ∀ {c : List Ent}, TYC s r AL W c → TYC S R AL W c
  | [], h => ⟨fun z => h.1 (by rw [← g.1 18 (by decide)]; exact z), h.2⟩
  | _ :: _, ⟨h1, h2, h3⟩ => ⟨fun z => (h1 z).cg e15 e16 e17 g, fun z => (h2 z).cg e17 g, TYC.cg e15 e16 e17 g h3⟩
theorem STP.bk {N H : Nat} {D : Nat → List Nat} {T : Int32 × CS} {s0 : CS} {nm : Nat → Nat → Prop} {AL : Als} {h u n0 : Nat} {V : RS} {s S : CS} {r R : RS} {c : List Ent} {B : Int} (e15 : S.a 15 = s.a 15) (e16 : S.a 16 = s.a 16) (e17 : S.a 17 = s.a 17) (g : RFX r R) (e80 : R.i 80 = r.i 80) (k : STP N H D T s0 nm AL h u V S R c n0 B) : STP N H D T s0 nm AL h u V s r c n0 B := by
  rcases k with k | ⟨S1, R1, mu, n, x, k1, k2, k3, k4, ⟨k5, k6, k7⟩, k8, k9⟩
  · rw [e80] at k
    exact Or.inl k
  · exact Or.inr ⟨S1, R1, mu, n, x, k1, k2, k3, k4, ⟨k5.trans e15, k6.trans e16, k7.trans e17⟩, g.tr k8, k9.trans e80⟩
theorem feq_top {S S1 : CS} {P : RS} {nu : Nat → Nat} {c : List Ent} {m : Int} {f : Nat} (hr : REFS S) (hf : S.r 61 (frs c) = some f) (d : frs c ≤ 21) (ea : S1.a = S.a) (er : S1.r = S.r) (eoa : S1.oa = S.oa) (eo : ∀ g : Nat, g ≠ f → S1.o g = S.o g ∧ S1.ot g = S.ot g) : FEQ S S1 P P nu nu c m ∧ ∀ b : Nat, TLV S P nu b → TLV S1 P nu b := by
  have fk : oK S f 1 := hr.2.2.2.1 (frs c) f (by omega) hf
  have tlv : ∀ b : Nat, TLV S P nu b → TLV S1 P nu b := fun b t => by
    obtain ⟨j, j1, j2⟩ := t.2.2.1
    have kb := (hr.2.2.2.2.2.1 j b j1 j2).1.2
    have nb : b ≠ f := fun q => by
      rw [q, fk.2] at kb
      exact absurd kb (by decide)
    unfold TLV THG inP at *
    rw [er, (eo b nb).1, eoa]
    exact t
  refine ⟨⟨fun i g hi hg => ?_, fun b _ t => ⟨tlv b t, rfl, rfl⟩, ⟨by rw [ea], rfl, rfl, rfl, rfl⟩, fun _ _ _ _ _ => rfl, fun _ _ => ⟨fun _ _ => by rw [ea], fun _ _ => rfl⟩, fun _ _ => rfl⟩, tlv⟩
  have ng : g ≠ f := fun q => by
    rw [q] at hg
    have := hr.2.2.2.2.1 i (frs c) f (by omega) (by omega) hg hf
    omega
  exact ⟨by rw [er]; exact hg, eo g ng⟩
/-- what is known behind the closes -/
def ACL (nm : Nat → Nat → Prop) (H : Nat) (S : CS) (P : RS) (nu : Nat → Nat) (AL : Als) (h u f : Nat) (e : Ent) (c : List Ent) (n1 : Int) : Prop := CLI nm H S P nu AL h (e :: c) n1 u ∧ (S.r 61 (frs c) = some f ∧ (S.o f 1).toInt = (e.x : Int) ∧ (S.o f 2).toInt = (e.h : Int)) ∧ (P.a 100 c.length = 4 ∧ (P.a 101 c.length).toInt = (e.y : Int) ∧ (P.a 104 c.length).toInt = (e.h : Int) ∧ P.a 102 c.length = 0) ∧ FRS S P nu AL c (P.i 97).toInt ∧ (P.i 95 = S.o f 3 ∧ (P.i 95).toInt ≤ (ops c : Int) ∧ ops c ≤ 320 ∧ RCO P c (P.i 95).toInt)
/-- below the entry, any state that is the class's but for this frame -/
theorem acl_blw {nm : Nat → Nat → Prop} {H : Nat} {S S1 : CS} {P : RS} {nu : Nat → Nat} {AL : Als} {h u f : Nat} {e : Ent} {c : List Ent} {n1 : Int} (hk : e.k = 1) (d22 : frs (e :: c) ≤ 22) (a : ACL nm H S P nu AL h u f e c n1) (ea : S1.a = S.a) (er : S1.r = S.r) (eoa : S1.oa = S.oa) (eo : ∀ g : Nat, g ≠ f → S1.o g = S.o g ∧ S1.ot g = S.ot g) (ei : ∀ j : Nat, j ≠ 65 → j ≠ 66 → j ≠ 68 → j ≠ 73 → j ≠ 74 → j ≠ 75 → S1.i j = S.i j) (e68 : S1.i 68 = S.o f 3) (e65 : ¬ S1.i 73 = 4 → S1.i 65 = S.i 65 ∧ ¬ S.i 73 = 4) (o0 : S1.o f 0 = 2) (oj : ∀ j : Nat, j ≠ 0 → S1.o f j = S.o f j) : BLW nm S1 P nu AL h c 0 ∧ TOPW S1 P e c f ∧ ∀ b : Nat, TLV S P nu b → TLV S1 P nu b := by
  obtain ⟨⟨⟨y1, y2⟩, y3, ⟨y4, y5, y6⟩, ⟨-, ⟨dd2, dd2'⟩, dd3, ⟨dd4, dd4'⟩, dd6, dd7⟩, ⟨y8, y9⟩, y10, y11, ⟨y12, y13⟩, y14⟩, ⟨q1, q2, q3⟩, ⟨q4, q5, q6, q7⟩, q8, ⟨q9, q10, q11, q12⟩⟩ := a
  have hf : frs (e :: c) = frs c + 1 := frs_up (by omega)
  have tp : tps (e :: c) = tps c + 2 := by
    show tps c + (if e.k = 1 then 2 else if e.k = 2 then 1 else 0) = tps c + 2
    rw [if_pos hk]
  obtain ⟨feq, tlv⟩ := feq_top (P := P) (nu := nu) (m := (P.i 97).toInt) y1 q1 (by omega) ea er eoa eo
  refine ⟨⟨(ei 72 (by decide) (by decide) (by decide) (by decide) (by decide) (by decide)).trans y3, ⟨⟨⟨by rw [ea]; exact y4.1.1, y4.1.2⟩, fun z => ?_⟩, y5.of (ei 69 (by decide) (by decide) (by decide) (by decide) (by decide) (by decide)) (ei 70 (by decide) (by decide) (by decide) (by decide) (by decide) (by decide)) (by rw [ea]) rfl rfl rfl rfl, by rw [ea]; exact y6⟩, q8.of feq, ⟨by rw [e68, q9], y12, q10, q11, by rw [ea]; exact y14, q12⟩, by rw [ei 71 (by decide) (by decide) (by decide) (by decide) (by decide) (by decide)]; exact dd3, ⟨dd4, by omega⟩, dd6, dd7, y11.of (fun j hj => ei j (by omega) (by omega) (by omega) (by omega) (by omega) (by omega)) (fun k _ => by rw [ea]) (RFX.rf P)⟩, ⟨⟨by rw [ei 67 (by decide) (by decide) (by decide) (by decide) (by decide) (by decide), dd2, hf]; omega, by omega⟩, ⟨by rw [er]; exact q1, o0, by rw [oj 1 (by decide)]; exact q2, by rw [oj 2 (by decide)]; exact q3⟩, by rw [dd2']; show ((c.length + 1 : Nat) : Int) = _; omega, q4, q5, q6⟩, tlv⟩
  obtain ⟨z1, z2⟩ := e65 z
  rw [z1]
  exact y4.2 z2
