/-! both machines: a catch begins; a body is left -/
theorem cat_in {nm : Nat → Nat → Prop} {S0 S1 S2 S : CS} {P V : RS} {nu : Nat → Nat} {AL : Als} {h f b pb qb z l j : Nat} {e : Ent} {c : List Ent} (ck : CTK nm ((2, e.h, e.x, e.y, z, l, e.u) :: c)) (bl : BLW nm S0 P nu AL h c 0) (tp : TOPW S0 P e c f) (hs : (∀ j : Nat, j ≠ 73 → j ≠ 74 → j ≠ 75 → S1.i j = S0.i j) ∧ S1.a = S0.a ∧ S1.r = S0.r ∧ S1.o = S0.o ∧ S1.ot = S0.ot ∧ S1.oa = S0.oa) (ot : S1.ot f = some b) (tl : TLV S0 P nu b) (h65 : (S1.i 65).toInt = (e.h : Int)) (h73 : S1.i 73 = 0) (eh : e.h ≤ h) (e114 : (P.i 114).toInt = (nu b : Int)) (th : (P.i 85).toInt + tps c + 1 ≤ 2 * (P.i 80).toInt) (g6 : E66 S1 S2) (h66 : (S2.i 66).toInt = ((pb + 1 : Nat) : Int)) (eS : S = CS.putA S2 59 (upd (S1.a 59) z (S1.o b 3))) (eV : V = RS.setI (RS.setI (RS.setA (RS.setA P 84 l (P.i 114)) 102 c.length 1) 93 (P.a 104 c.length)) 92 (P.a 35 j)) (e35 : (P.a 35 j).toInt = (qb : Int)) : SYN nm S V nu AL e.h (pb + 1) qb ((2, e.h, e.x, e.y, z, l, e.u) :: c) 0 ∧ V.i 80 = P.i 80 := by
  obtain ⟨⟨t1, t2⟩, ⟨t3, t4, t5, t6⟩, t7, t8, t9, t10⟩ := tp
  obtain ⟨b1, ⟨b2, b3, b4⟩, b5, b6, b7, ⟨b8, b9⟩, b10, b11, b12⟩ := bl
  obtain ⟨ck1, ck2, ck3⟩ := ck
  obtain ⟨z7, zn, zc⟩ := ck1 z (Or.inl ⟨rfl, rfl⟩)
  obtain ⟨ln, lc⟩ := ck2 l ⟨rfl, rfl⟩
  obtain ⟨g1, g2, g3, g4, g5, g7, g8⟩ := g6
  obtain ⟨k1, k2, k3, k4, k5, k6⟩ := hs
  have Si1 : ∀ k : Nat, k ≠ 66 → S.i k = S1.i k := fun k a => by
    rw [eS]
    exact g1 k a
  have Si : ∀ k : Nat, k ≠ 66 → k ≠ 73 → k ≠ 74 → k ≠ 75 → S.i k = S0.i k := fun k a b' c' d => (Si1 k a).trans (k1 k b' c' d)
  have S66 : S.i 66 = S2.i 66 := by
    rw [eS]
    rfl
  have Sa : ∀ k : Nat, k ≠ 59 → S.a k = S0.a k := fun k a => by
    rw [eS, ← k2, ← g2]
    exact if_neg a
  have S59 : ∀ k : Nat, S.a 59 k = if k = z then S0.o b 3 else S0.a 59 k := fun k => by
    rw [eS, ← k2, ← k4]
    rfl
  have Sr : S.r = S0.r ∧ S.o = S0.o ∧ S.ot = S0.ot ∧ S.oa = S0.oa := by
    rw [eS]
    exact ⟨g3.trans k3, g5.trans k4, g7.trans k5, g8.trans k6⟩
  rw [k5] at ot
  obtain ⟨s1, s2, s3, s4⟩ := Sr
  have Vi : ∀ k : Nat, k ≠ 92 → k ≠ 93 → V.i k = P.i k := fun k a d => by
    rw [eV, ri_ne a, ri_ne d]
    rfl
  have V92 : V.i 92 = P.a 35 j := by rw [eV, ri_at]
  have V93 : V.i 93 = P.a 104 c.length := by rw [eV, ri_ne (by decide), ri_at]
  have Va : ∀ k : Nat, k ≠ 84 → k ≠ 102 → V.a k = P.a k := fun k a d => by
    rw [eV]
    show (RS.setA (RS.setA P 84 l (P.i 114)) 102 c.length 1).a k = P.a k
    rw [setA_nk d, setA_nk a]
  have V84 : ∀ k : Nat, V.a 84 k = if k = l then P.i 114 else P.a 84 k := fun k => by
    rw [eV]
    show (RS.setA (RS.setA P 84 l (P.i 114)) 102 c.length 1).a 84 k = _
    rw [setA_nk (by decide)]
    by_cases q : k = l
    · rw [q, setA_at, if_pos rfl]
    · rw [setA_ne q, if_neg q]
  have V102 : V.a 102 c.length = 1 := by
    rw [eV]
    show (RS.setA (RS.setA P 84 l (P.i 114)) 102 c.length 1).a 102 c.length = 1
    rw [setA_at]
  have V102' : ∀ k : Nat, k ≠ c.length → V.a 102 k = P.a 102 k := fun k a => by
    rw [eV]
    show (RS.setA (RS.setA P 84 l (P.i 114)) 102 c.length 1).a 102 k = P.a 102 k
    rw [setA_ne a, setA_nk (by decide)]
  clear eS eV
  have tlv : ∀ b' : Nat, TLV S0 P nu b' → TLV S V nu b' := fun b' t => by
    unfold TLV THG inP at *
    rw [s1, s2, s4, Vi 85 (by decide) (by decide), Vi 3 (by decide) (by decide), Va 86 (by decide) (by decide), Va 87 (by decide) (by decide), Va 88 (by decide) (by decide), Va 89 (by decide) (by decide), Va 90 (by decide) (by decide)]
    exact t
  have feq : FEQ S0 S P V nu nu c (P.i 97).toInt := by
    refine ⟨fun i f' _ hf => ⟨by rw [s1]; exact hf, by rw [s2], by rw [s3]⟩, fun b' _ t => ⟨tlv b' t, rfl, by rw [Va 87 (by decide) (by decide)]⟩, ⟨Sa 17 (by decide), Va 21 (by decide) (by decide), Va 23 (by decide) (by decide), Va 31 (by decide) (by decide), Va 32 (by decide) (by decide)⟩, fun i k q1 q2 q3 => ?_, fun a ha => ⟨fun k hk => ?_, fun l' hl => ?_⟩, fun i _ => by rw [Va 98 (by decide) (by decide)]⟩
    · by_cases q : i = 102
      · rw [q]
        exact V102' k (by omega)
      · rw [Va i (by omega) q]
    · rw [S59, if_neg (fun q => zc a ha (by rw [← q]; exact hk))]
    · rw [V84, if_neg (fun q => lc a ha (by rw [← q]; exact hl))]
  refine ⟨⟨⟨⟨⟨(Si 72 (by decide) (by decide) (by decide) (by decide)).trans b1, (Si1 73 (by decide)).trans h73⟩, by rw [S66]; exact h66, by rw [V92]; exact e35⟩, ⟨⟨by rw [Si1 65 (by decide)]; exact h65, by rw [V93]; exact t10, by have := b2.1.2; omega⟩, fun k hk => ?_⟩, b3.of (Si 69 (by decide) (by decide) (by decide) (by decide)) (Si 70 (by decide) (by decide) (by decide) (by decide)) (Sa 64 (by decide)) (Vi 80 (by decide) (by decide)) (Vi 81 (by decide) (by decide)) (Va 82 (by decide) (by decide)) (Va 83 (by decide) (by decide)), fun k l' hk => ?_⟩, ⟨⟨?_, ⟨?_, ?_⟩, ?_, ⟨by rw [Vi 85 (by decide) (by decide)]; exact b8, ?_⟩, ?_, (Vi 115 (by decide) (by decide)).trans b11⟩, ?_⟩, b12.of (fun k hk => Si k (by omega) (by omega) (by omega) (by omega)) (fun k hk => Sa k (by omega)) ⟨fun k hk => Vi k (by omega) (by omega), fun k hk => Va k (by omega) (by omega)⟩⟩, Vi 80 (by decide) (by decide)⟩
  · rw [Sa 60 (by decide), Va 94 (by decide) (by decide)]
    exact b2.1.1 k (by omega)
  · rw [S59, V84, if_neg (fun q => zn l' (by rw [← q]; exact hk)), if_neg (fun q => ln k (by rw [← q]; exact hk))]
    exact b4 k l' hk
  · refine ⟨?_, Or.inr (Or.inr (Or.inl ⟨rfl, ?_, ⟨?_, V102⟩, ⟨f, b, ⟨by rw [s1]; exact t3, by rw [s2]; exact t4, by rw [s2]; exact t6⟩, by rw [s2]; exact t5, by rw [s3]; exact ot, tlv b tl, ?_, ?_⟩, ?_⟩))⟩
    · rw [Va 104 (by decide) (by decide)]
      exact t10
    · rw [Va 100 (by decide) (by decide)]
      exact t8
    · rw [Va 101 (by decide) (by decide)]
      exact t9
    · show (V.a 84 l).toInt = (nu b : Int)
      rw [V84, if_pos rfl]
      exact e114
    · show S.a 59 z = V.a 87 (nu b)
      rw [S59, if_pos rfl, Va 87 (by decide) (by decide)]
      exact tl.1.1.2.1
    · rw [Vi 97 (by decide) (by decide)]
      exact b5.of feq
  · rw [Si 67 (by decide) (by decide) (by decide) (by decide), t1, frs_up (show Ent.k (2, e.h, e.x, e.y, z, l, e.u) ≤ 3 from by show (2 : Nat) ≤ 3; decide)]
    omega
  · rw [Vi 99 (by decide) (by decide), t7]
    show (c.length : Int) + 1 = ((c.length + 1 : Nat) : Int)
    omega
  · rw [Si 71 (by decide) (by decide) (by decide) (by decide), hS_of (r := P) (R := V) (Va 91 (by decide) (by decide)) 8]
    exact b7
  · rw [Vi 85 (by decide) (by decide), Vi 80 (by decide) (by decide)]
    show (P.i 85).toInt + ((tps c + 1 : Nat) : Int) ≤ 2 * (P.i 80).toInt + 0
    omega
  · unfold MUI at *
    rw [Vi 85 (by decide) (by decide)]
    exact b10
  · obtain ⟨o1, o2, o3, o4, o5, o6⟩ := b6
    refine ⟨by rw [Si 68 (by decide) (by decide) (by decide) (by decide), Vi 95 (by decide) (by decide)]; exact o1, by rw [Vi 95 (by decide) (by decide)]; exact o2, by rw [Vi 95 (by decide) (by decide)]; exact o3, o4, fun k hk => ?_, by rw [Vi 95 (by decide) (by decide)]; exact ⟨fun q => absurd (show (2 : Nat) = 1 from q) (by decide), fun _ => o6.of (fun k _ => by rw [Va 103 (by decide) (by decide)])⟩⟩
    rw [Vi 95 (by decide) (by decide)] at hk
    rw [Sa 63 (by decide), Va 96 (by decide) (by decide)]
    exact o5 k hk
theorem cag_f {s : CS} {b : Nat} : (∀ j : Nat, j ≠ 73 → j ≠ 74 → j ≠ 75 → (cAg s b).i j = s.i j) ∧ ((cAg s b).i 73 = 4 ∧ (cAg s b).i 74 = 0 ∧ (cAg s b).i 75 = 0) ∧ (cAg s b).w = some b ∧ ((cAg s b).a = s.a ∧ (cAg s b).r = s.r ∧ (cAg s b).o = s.o ∧ (cAg s b).ot = s.ot ∧ (cAg s b).oa = s.oa) := by
  unfold cAg
  refine ⟨fun j a c d => ?_, ⟨?_, ?_, ?_⟩, rfl, rfl, rfl, rfl, rfl, rfl⟩
  · rw [ci_ne _ _ _ d, ci_ne _ _ _ c, ci_ne _ _ _ a, ci_setW]
  · rw [ci_ne _ _ _ (by decide), ci_ne _ _ _ (by decide), ci_at]
  · rw [ci_ne _ _ _ (by decide), ci_at]
  · rw [ci_at]
