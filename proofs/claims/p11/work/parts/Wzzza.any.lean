/-! both readers: a statement, by its first token -/
theorem r_sst {N T : Nat} {s V : RS} (ht : tpI s = (T : Int)) (h15 : s.i 15 = 0) (h10 : s.i 10 = 59) (h : f_X12_stat N s (s.i 63) = some V) : T < 1000 ∧ f_X12_stat_309 N (RS.setA (RS.setI s 53 ((s.i 53) + 1)) 64 T 2) = some V := by
  unfold f_X12_stat at h
  rw [h10, tp_nat ht] at h
  iterate 16 rw [if_neg (by decide)] at h
  obtain ⟨hib, h2⟩ := hf_ite h
  clear h
  refine ⟨?_, ?_⟩
  · have z : (s.i 63).toInt = (T : Int) := ht
    have := hib.2
    omega
  obtain ⟨s1, hs1⟩ : ∃ y, y = RS.setA (RS.setI s 53 ((s.i 53) + 1)) 64 T 2 := ⟨_, rfl⟩
  have i1 : ∀ k : Nat, k ≠ 53 → s1.i k = s.i k := by
    rw [hs1]
    exact fun k h => if_neg h
  have a64 : s1.a 64 T = 2 := by
    rw [hs1]
    exact setA_at
  rw [← hs1] at h2 ⊢
  clear hs1
  unfold f_X12_stat_240 at h2
  obtain ⟨-, h2⟩ := hf_ite h2
  rw [tp_nat ht, a64, if_pos rfl, i1 10 (by decide), h10, if_pos rfl] at h2
  obtain ⟨p, ep, h2⟩ := hf_bind h2
  rw [y_can1 (by rw [i1 15 (by decide)]; exact h15) (by rw [i1 10 (by decide), h10]; decide)] at ep
  rw [← Option.some.inj ep, if_neg n10] at h2
  exact h2
/-- what begins no statement -/
theorem r_mst {N T : Nat} {s V : RS} (ht : tpI s = (T : Int)) (nt : ∀ v : Int32, (v = 123 ∨ v = 410 ∨ v = 411 ∨ v = 2 ∨ v = 412 ∨ v = 420 ∨ v = 431 ∨ v = 421 ∨ v = 427 ∨ v = 413 ∨ v = 415 ∨ v = 416 ∨ v = 417 ∨ v = 422 ∨ v = 428 ∨ v = 423 ∨ v = 59 ∨ v = 418 ∨ v = 419) → ¬ s.i 10 = v) (h : f_X12_stat N s (s.i 63) = some V) : ¬ V.i 15 = 0 := by
  unfold f_X12_stat at h
  rw [tp_nat ht, if_neg (nt 123 (by decide)), if_neg (nt 410 (by decide)), if_neg (nt 411 (by decide)), if_neg (nt 2 (by decide)), if_neg (nt 412 (by decide)), if_neg (nt 420 (by decide)), if_neg (nt 431 (by decide)), if_neg (nt 421 (by decide)), if_neg (nt 427 (by decide)), if_neg (nt 413 (by decide)), if_neg (nt 415 (by decide)), if_neg (nt 416 (by decide)), if_neg (nt 417 (by decide)), if_neg (nt 422 (by decide)), if_neg (nt 428 (by decide)), if_neg (nt 423 (by decide))] at h
  obtain ⟨-, h2⟩ := hf_ite h
  clear h
  obtain ⟨s1, hs1⟩ : ∃ y, y = RS.setA (RS.setI s 53 ((s.i 53) + 1)) 64 T 2 := ⟨_, rfl⟩
  have i1 : ∀ k : Nat, k ≠ 53 → s1.i k = s.i k := by
    rw [hs1]
    exact fun k h => if_neg h
  have a64 : s1.a 64 T = 2 := by
    rw [hs1]
    exact setA_at
  rw [← hs1] at h2
  clear hs1
  unfold f_X12_stat_240 at h2
  obtain ⟨-, h2⟩ := hf_ite h2
  rw [tp_nat ht, a64, if_pos rfl, i1 10 (by decide), if_neg (nt 59 (by decide)), if_neg (nt 418 (by decide)), if_neg (nt 419 (by decide))] at h2
  obtain ⟨p, ep, h2⟩ := hf_bind h2
  obtain ⟨z1, z2⟩ := y_can0 ep
  rw [if_pos z1] at h2
  rw [← Option.some.inj h2]
  exact z2
set_option maxHeartbeats 1000000 in
theorem st_semi {N : Nat} (hN : 1000 ≤ N) {d : Int32} {B : CS} {b : RS} {t0 T n : Nat} {L : List CEL} {x : Int} {S : CS} {s U : RS} {c : CEL} {p R : Unit × CS} {Aj : JBA} (hC : COR d B b t0 (c :: L) x S s) (hS : STO c T S s) (hT : t0 ≤ T) (hm : NMC c S) (h43 : S.i 43 = 59) (e1 : f_X0_add N (CS.setI (CS.setI S 36 1) 24 ((S.i 24) + 1)) 51 0 = some p) (e : f_X9_advance N p.2 = some R) (g : f_X12_parse_10 N n s = some U) : OUTS N d B b t0 T c L x R.2 U (JTR Aj U B b (c :: L) S s) := by
  obtain ⟨q1, q2, q3, q4, q5, q6⟩ := id hS
  have hv := hC.1
  have ph3 : 3 ≤ phI s := by
    have a := hC.2.2.2.2.2.2.1.2.1
    have b := (PDM.ge S (c :: L)).1
    have e := hC.2.2.2.2.2.2.2.2.2.2.2.1
    omega
  have h10 := (tk_is hv (a := 59) (b := 59) (Or.inl ⟨by decide, by decide⟩) (by decide)).mp h43
  obtain ⟨m1, V1, hV1, g1⟩ := rl_2 g q4 hv.1.2.1 q5
  obtain ⟨t9, hV2⟩ := r_sst q4 hv.1.2.1 h10 hV1
  have w0 := WAY.stm (K := 2) hv q4
  have qs0 : qe (RS.setA (RS.setI s 53 ((s.i 53) + 1)) 64 T 2) = qe s := rfl
  have ns0 : NMV s (RS.setA (RS.setI s 53 ((s.i 53) + 1)) 64 T 2) := ⟨rfl, fun _ _ => rfl⟩
  have kS0 : pe (CS.setI (CS.setI S 36 1) 24 ((S.i 24) + 1)) = pe S ∧ (CS.setI (CS.setI S 36 1) 24 ((S.i 24) + 1)).a = S.a := ⟨rfl, rfl⟩
  obtain ⟨s1, hs1⟩ : ∃ y, y = RS.setA (RS.setI s 53 ((s.i 53) + 1)) 64 T 2 := ⟨_, rfl⟩
  obtain ⟨S1, hS1⟩ : ∃ y, y = CS.setI (CS.setI S 36 1) 24 ((S.i 24) + 1) := ⟨_, rfl⟩
  have i1 : ∀ k : Nat, k ≠ 53 → s1.i k = s.i k := by
    rw [hs1]
    exact fun k h => if_neg h
  have iS : ∀ k : Nat, k ≠ 36 → k ≠ 24 → S1.i k = S.i k := by
    rw [hS1]
    exact fun k h1 h2 => (ci_ne _ _ _ h2).trans (ci_ne _ _ _ h1)
  rw [← hs1] at hV2 w0 qs0 ns0
  rw [← hS1] at e1 w0 kS0
  clear hs1 hS1
  have p1 : phI s1 = phI s := by
    unfold phI
    rw [i1 17 (by decide), i1 20 (by decide)]
  unfold f_X12_stat_309 at hV2
  obtain ⟨y, hy, hV2⟩ := hf_bind hV2
  obtain ⟨w1, -, -, -, y10⟩ := w0.em (by omega) hy
  have w2 := w1.ad e1
  obtain ⟨-, -, j43, -⟩ := y_add w1.1 e1
  have p43 : p.2.i 43 = 59 := (j43.trans (iS 43 (by decide) (by decide))).trans h43
  rw [if_pos ((y10.trans (i1 10 (by decide))).trans h10)] at hV2
  obtain ⟨q, hq, hV3⟩ := hf_bind hV2
  have ho : f_X12_over N q 1 = some V1 := by
    obtain ⟨o, h1, h2⟩ := hf_bind hV3
    rw [h1, Option.some.inj h2]
  obtain ⟨n1, n2, n3, n4, n5, n6, n7, n8, n9⟩ := y_nx hN w2.1 w2.2.1 (by rw [p43]; decide) e hq
  obtain ⟨v1, v2, v3, v4, v5, -, v7, v8, v9, v10⟩ := y_over n1 n2 t9 ho
  have xo : XO d T p.2 y.2 R.2 V1 := ⟨v1, v2, (n3 T).tr (v3 T), n4.tr v4, n5, by rw [v8]; exact n6, by omega, by rw [v9]; omega, v10.trans n9⟩
  have r36 : R.2.i 36 = 1 := n5.1.2.1.trans w2.2.2.2.2.2.1.2.2.2.2
  refine Or.inr (Or.inr (Or.inr ⟨m1, V1, g1, DON.dm hC hS hT hm w2 ⟨by omega, by omega, by omega, by omega, by omega⟩ (xo.don2 ⟨v5.trans r36.symm, Or.inr r36⟩) xo.2.2.2.1.1.1.2.2.2.1, fun _ jw => ?_⟩))
  have hin := hC.inl q1 q3
  have ckall : CKZ S R.2 := w2.2.2.2.2.1.tr w2.2.2.2.2.2.1.2.2.1 n5.z
  have veq : vws R.2 V1 (c :: L) = vws S s (c :: L) := vws.eqf (T := T) ((NMV.tr (NMV.tbk w2.2.2.2.1) (NMV.tbk (n4.tr v4))).2) (c :: L) hC.o3 (fun y hy => (hin.o ckall y hy).1) (fun k t h1 h2 h3 => (((n3 T).tr (v3 T)).fld k t h1 h2 h3).trans (w2.2.2.1.fld k t h1 h2 h3)) (fun y hy => by
    have z1 := wid1 (S.o y.2.1 0)
    have z2 := (hin y hy).2.2.1
    omega)
  show JRW Aj U B b (vws R.2 V1 (c :: L)) R.2 V1
  rw [veq]
  have k44 : (S1.i 44).toInt = (s1.i 11).toInt := by rw [w0.1.p44.1]
  have k6 := (i11_hi w0.1).2
  have k20 := w0.1.p20
  have z1 : JRG Aj U B b (vws S s (c :: L)) s [] (JQA U 0 0 (pcC S1) (pcR s1) JQZ) 0 1 S1 s1 := ((((jw.go (e := 1) (Or.inl rfl)).ce (R := S1) kS0.1 (iS 21 (by decide) (by decide)) (by rw [kS0.2]) (by rw [kS0.2]) (iS 50 (by decide) (by decide)) (iS 44 (by decide) (by decide))).se (u := s1) qs0 ns0)).imp (by omega) (by omega) (fun _ _ _ _ _ _ _ _ _ _ _ _ _ k gu => k (by rw [← pcC.pe kS0.1, ← pcR.qe qs0]; exact ⟨gu 0, gu 1⟩))
  have z2 := z1.stp (δ' := 0) e1 (by omega) (by omega) hy ⟨k20.1, by omega⟩ (by omega)
  have z3 := (z2.adv hN w2.1 (by rw [p43]; decide) e hq).se (u := V1) (kre_f_X12_over N q 1 V1 ho) (NMV.tbk v4)
  have pc : pcC R.2 = pcC p.2 := pcC.pe (ke_X9_advance N p.2 R e)
  have pr : pcR V1 = pcR y.2 := (pcR.qe (kre_f_X12_over N q 1 V1 ho)).trans (pcR.qe (kre_f_X12_next N y.2 q hq))
  have l11 := w2.l11
  have l19 := w2.l19
  exact z3.fin (by omega) (Or.inl (by omega)) ((GKP.tbk w2.2.2.2.1).tr (GKP.tbk (n4.tr v4))) (by rw [v8]; omega) (by rw [v10, n9]; omega) (fun FC SF nm X G h0 c0 ω Z hω r12 hA ng hc k cur => k (by rw [← pc, ← pr]; exact (cur r36).2))
theorem OUTS.k {N : Nat} {d : Int32} {B : CS} {b : RS} {t0 T : Nat} {c : CEL} {L : List CEL} {x : Int} {S R : CS} {U : RS} {Q : RS → CS → RS → CS → RS → Prop} {s : RS} {Aj : JBA} (hm : NMC c S) (es : ENV d S s) (hQ : ∀ (P : CS) (y u : RS), Q U P y R u → u.i 38 = y.i 38 ∨ ¬ isOne (S.o c.2.1 0)) (h : (¬ R.i 32 = 0 ∧ ¬ U.i 15 = 0) ∨ ∃ (m : Nat) (u : RS), f_X12_parse_10 N m u = some U ∧ DN d B b t0 T c L x R u ∧ (∃ (P : CS) (y : RS), y.i 38 = s.i 38 ∧ Q U P y R u) ∧ R.o c.2.1 = S.o c.2.1 ∧ (KU3 U s → JRW Aj U B b (vws S s (c :: L)) S s → JRW Aj U B b (vws R u (c :: L)) R u)) : OUTS N d B b t0 T c L x R U (JTR Aj U B b (c :: L) S s) := by
  rcases h with h | ⟨m, u, h1, h2, ⟨P, y, y1, y2⟩, eo, hj⟩
  · exact Or.inl h
  · refine Or.inr (Or.inr (Or.inr ⟨m, u, h1, ⟨h2, ?_⟩, hj⟩))
    rcases hQ P y u y2 with z | z
    · exact hm.dn es h2.1.1 (z.trans y1) eo
    · intro z1
      rw [eo] at z1
      exact absurd z1 z
theorem OUTS.n {N : Nat} {d : Int32} {B : CS} {b : RS} {t0 T : Nat} {c : CEL} {L : List CEL} {x : Int} {R : CS} {U : RS} {J : List RVW → CS → RS → Prop} (h : (¬ R.i 32 = 0 ∧ ¬ U.i 15 = 0) ∨ ∃ (m : Nat) (u : RS), f_X12_parse_10 N m u = some U ∧ NEW d B b t0 c L R u J) : OUTS N d B b t0 T c L x R U J := by
  rcases h with h | h
  · exact Or.inl h
  · exact Or.inr (Or.inr (Or.inl h))
theorem OUTS.m {N : Nat} {d : Int32} {B : CS} {b : RS} {t0 T : Nat} {c : CEL} {L : List CEL} {x : Int} {R : CS} {U : RS} {J : List RVW → CS → RS → Prop} (h : (¬ R.i 32 = 0 ∧ ¬ U.i 15 = 0) ∨ DMD d B R U ∨ ∃ (m : Nat) (u : RS), f_X12_parse_10 N m u = some U ∧ NEW d B b t0 c L R u J) : OUTS N d B b t0 T c L x R U J := by
  rcases h with h | h | h
  · exact Or.inl h
  · exact Or.inr (Or.inl h)
  · exact Or.inr (Or.inr (Or.inl h))
/-- the goals that the rows hold are no arm's -/
theorem STK.g44 {b : RS} {S : CS} {s : RS} : ∀ (L : List CEL) (c : CEL) (m e k : Int), STK S s (c :: L) m e k → BOT b S (c :: L) → ∀ g : Nat, (b.i 43).toInt ≤ (g : Int) → g < ceG c + nGo (S.o c.2.1 0) → ¬ s.a 44 g = 3
  | [], c, m, e, k, st, hb, g, h1, h2 => by
    have n0 := nGo.eq hb.1
    have := hb.2.1
    omega
  | c0 :: L, c, m, e, k, st, hb, g, h1, h2 => by
    obtain ⟨m', e', k', g1, g2, g3⟩ := st
    have l3 := (g2 c0 rfl).1.2.2.1
    by_cases q : g < ceG c
    · exact STK.g44 L c0 m' e' k' g3 hb g h1 (by omega)
    · by_cases go : isGo (S.o c.2.1 0)
      · have n1 := nGo1 go
        have eg : g = ceG c := by omega
        rw [eg]
        obtain ⟨-, -, -, r3, -, -, r5, r6, r7, r4, -, r8, -⟩ := g1.2.2.1
        rcases go with z | z | z | z | z | z
        · rw [(r3 z).2.2.2.1]
          decide
        · rw [(r8 z).2.2.2.1]
          decide
        · rw [(r5 z).2.2.2.2]
          decide
        · rw [(r6 z).2.2.2]
          decide
        · rw [(r7 z).2.2.2.2.2]
          decide
        · rw [(r4 z).1.2.2.2.2]
          decide
      · have n0 := nGo.eq go
        omega
/-- what the base knows of its arm -/
def YBA (A : JBA) (U : RS) (B : CS) (b : RS) : Prop := 0 ≤ (B.i 56).toInt → ∃ (a gA : Nat), (B.i 56).toInt < (B.i 53).toInt ∧ B.r 51 (B.i 56).toInt.toNat = some a ∧ (b.i 43).toInt = (gA : Int) + 1 ∧ b.a 44 gA = 3 ∧ ∀ (FC : Nat → Prop) (SF : CS) (nm : Nat → Nat → Prop) (X : Als) (h0 ω : Nat) (c0 : List Ent), A FC SF nm X h0 ω c0 → NT5 (B.o a 9) ∧ ∃ (q0 we : Nat) (c' : List Ent), c0 = (5, h0, q0, 0, 0, 0, 0) :: c' ∧ h0 < 600 ∧ we ≤ ω ∧ EXG FC SF U nm X (B.o a 9) q0 h0 we c' ∧ (B.o a 2).toInt = (frs c' : Int) ∧ (b.a 47 gA).toInt = (c'.length : Int) + 1
/-- yield's code -/
theorem y_yok {d : Int32} {B : CS} {b : RS} {t0 T : Nat} {L : List CEL} {x : Int} {S P R : CS} {s y u U : RS} {c : CEL} {A : JBA} (hC : COR d B b t0 (c :: L) x S s) (hS : STO c T S s) (hB : BOT b S (c :: L)) (hY : YBA A U B b) (ev : ENV d P y) (dn : DON d T P y R u) (e38 : u.i 38 = y.i 38) (h : YDP y u ∧ ∃ a : Nat, P.r 51 (P.i 56).toInt.toNat = some a ∧ 0 ≤ (P.i 56).toInt ∧ CDG (-1) (fun FC SF nm X c h w2 => GF2 FC SF U (GU FC SF U nm X) c h (P.o a 9 * 32 + P.o a 2) (u.a 23 (pcR u - 1)) (w2 - 1)) U P y R u) (eP : P.i 56 = S.i 56 ∧ P.r = S.r ∧ P.o = S.o) (ey : y.i 43 = s.i 43 ∧ y.a 44 = s.a 44 ∧ y.a 47 = s.a 47) : JOK A (vws S s (c :: L)) U P y R u := by
  obtain ⟨yd, a, ha, h56, cg⟩ := h
  obtain ⟨c1, c2, -, -, -, -, -, -, -, -, c11⟩ := hC.2.2.2.2.1
  rw [eP.1, eP.2.1] at ha
  rw [eP.1, c11] at h56
  rw [c11] at ha
  obtain ⟨a', gA, b1, b2, b3, b4, hA⟩ := hY h56
  have lt : (((B.i 56).toInt.toNat : Nat) : Int) < (B.i 53).toInt := by omega
  rw [c1 _ lt, b2] at ha
  cases ha
  have eo : P.o a = B.o a := by
    rw [eP.2.2]
    exact (c2 _ a lt b2).1
  have tb := hC.2.2.2.2.2.1.2.1
  obtain ⟨t44, -, -, t47, -⟩ := tb.2.2.2.2.1 gA (by omega)
  have gl := hS.1.2.1
  have d23 : u.a 23 (pcR u - 1) = b.a 47 gA := by
    rw [yd gA (by rw [ey.1]; have := tb.2.1; omega) (by rw [ey.2.1, t44]; exact b4) (fun g' h1 h2 h3 => ?_), ey.2.2, t47]
    rw [ey.1] at h2
    rw [ey.2.1] at h3
    exact STK.g44 L c _ _ _ hC.2.1 hB g' (by omega) (by omega) h3
  refine ⟨_, dn.cdw ev e38 cg, fun FC SF nm X G ω h0 c0 hω r12 hAA ng hc _ => ?_⟩
  obtain ⟨n5, q0, we, c', e0, h6, hwe, ⟨pe', qe', g1, g2, g3, -⟩, f1, f2⟩ := hA FC SF nm X h0 ω c0 hAA
  obtain ⟨l0, c1', i1, i2, i3⟩ := JCX.app G ω h0 c0 [] (vws S s (c :: L))
  rw [List.append_nil] at i1 l0
  have hh := (JCX.cnt G ω h0 c0 (vws S s (c :: L))).1
  have fr := (JCX.cnt G ω h0 c0 (vws S s (c :: L))).2.1
  have e00 : (JCX G ω h0 c0 []).c = c0 := rfl
  have l00 : (JCX G ω h0 c0 []).l = 0 := rfl
  have fr22 := hc.2.2.1
  have fc' : frs c0 = frs c' := by
    rw [e0]
    rfl
  have d32 : 0 ≤ (B.o a 2).toInt ∧ (B.o a 2).toInt < 32 := ⟨by omega, by omega⟩
  obtain ⟨y1, y2⟩ := lv5 n5 d32
  rw [hh]
  refine ⟨c1', (5, h0, q0, 0, 0, 0, 0), c', by rw [i1, e00, e0]; rfl, ⟨rfl, rfl, h6⟩, ⟨?_, by rw [d23]; exact f2⟩, i2, fun _ => ⟨pe', qe', we, ⟨?_, g2⟩, g3, by omega, fun e he hk => ?_⟩⟩
  · rw [eo, y2]
    exact f1
  · rw [eo, y1]
    exact g1
  · have := (i3 e he hk).1
    rw [l00] at this
    omega
set_option maxHeartbeats 8000000 in
theorem st_plain {N : Nat} (hN : 1000 ≤ N) {E1 : CS → Option (Unit × CS)} {E2 : CS → Option (Int32 × CS)} (hm1 : ∀ σ, Kf (CS.i σ 32) (E1 σ)) (hm2 : ∀ σ, Kf (CS.i σ 32) (E2 σ)) (hE : SXR N 18 E1) (hE2 : SXN N 22 E2) {d : Int32} {B : CS} {b : RS} {t0 T n : Nat} {L : List CEL} {x : Int} {S : CS} {s U : RS} {c : CEL} {p R : Unit × CS} {Aj : JBA} (hY : YBA Aj U B b) (hC : COR d B b t0 (c :: L) x S s) (hS : STO c T S s) (hT : t0 ≤ T) (hm : NMC c S) (hx : S.o c.2.1 0 = 303 → x = lcd s) (hB : BOT b S (c :: L)) (hBS : BSE S (c :: L)) (hB2 : BO2 B b S (c :: L)) (h1b : isOne (S.o c.2.1 0) → ¬ S.i 43 = 200 ∧ ¬ S.i 43 = 201) (n2 : ¬ S.i 43 = 2) (n123 : ¬ S.i 43 = 123) (e1 : f_X0_add N (CS.setI (CS.setI S 36 1) 24 ((S.i 24) + 1)) 51 0 = some p) (e : f_X7_plain N E1 E2 p.2 = some R) (g : f_X12_parse_10 N n s = some U) : OUTS N d B b t0 T c L x R.2 U (JTR Aj U B b (c :: L) S s) := by
  obtain ⟨q1, q2, q3, q4, q5, q6⟩ := id hS
  have hv := hC.1
  have ev1 := hv.stm (t := T) (K := 0)
  obtain ⟨-, -, j43, -⟩ := y_add ev1 e1
  have p43 : p.2.i 43 = S.i 43 := by
    rw [j43, ci_ne _ _ _ (by decide), ci_ne _ _ _ (by decide)]
  have tk : ∀ a b : Int32, tyR a → tm a = b → (S.i 43 = a ↔ s.i 10 = b) := fun a b h1 h2 => tk_is hv h1 h2
  have ty : ∀ a : Int32, (200 ≤ a.toInt ∧ a.toInt ≤ 224) → tyR a := fun a h => Or.inr h
  have k203 := tk 203 413 (ty _ (by decide)) (by decide)
  have k205 := tk 205 415 (ty _ (by decide)) (by decide)
  have k206 := tk 206 416 (ty _ (by decide)) (by decide)
  have k207 := tk 207 417 (ty _ (by decide)) (by decide)
  have k212 := tk 212 422 (ty _ (by decide)) (by decide)
  have k213 := tk 213 423 (ty _ (by decide)) (by decide)
  have k218 := tk 218 428 (ty _ (by decide)) (by decide)
  have k200 := tk 200 410 (ty _ (by decide)) (by decide)
  have k201 := tk 201 411 (ty _ (by decide)) (by decide)
  have k202 := tk 202 412 (ty _ (by decide)) (by decide)
  have k210 := tk 210 420 (ty _ (by decide)) (by decide)
  have k221 := tk 221 431 (ty _ (by decide)) (by decide)
  have k211 := tk 211 421 (ty _ (by decide)) (by decide)
  have k217 := tk 217 427 (ty _ (by decide)) (by decide)
  have k208 := tk 208 418 (ty _ (by decide)) (by decide)
  have k209 := tk 209 419 (ty _ (by decide)) (by decide)
  have k2 := tk 2 2 (Or.inl ⟨by decide, by decide⟩) (by decide)
  have k59 := tk 59 59 (Or.inl ⟨by decide, by decide⟩) (by decide)
  have k123 := tk 123 123 (Or.inl ⟨by decide, by decide⟩) (by decide)
  have lp : (S.i 43 = 205 ∨ S.i 43 = 206 ∨ S.i 43 = 207) → S.o c.2.1 0 = 303 → x = -3 := fun h z => by
    rw [hx z]
    unfold lcd
    refine if_pos ?_
    rcases h with h | h | h
    · exact Or.inl (k205.mp h)
    · exact Or.inr (Or.inl (k206.mp h))
    · exact Or.inr (Or.inr (k207.mp h))
  have ot : ¬ S.i 43 = 205 → ¬ S.i 43 = 206 → ¬ S.i 43 = 207 → S.o c.2.1 0 = 303 → x = -1 := fun h1 h2 h3 z => by
    rw [hx z]
    unfold lcd
    rw [if_neg, if_neg (fun q => n2 (k2.mpr q))]
    intro q
    rcases q with q | q | q
    · exact h1 (k205.mpr q)
    · exact h2 (k206.mpr q)
    · exact h3 (k207.mpr q)
  have ot' : ∀ a : Int32, S.i 43 = a → ¬ a = 205 → ¬ a = 206 → ¬ a = 207 → S.o c.2.1 0 = 303 → x = -1 := fun a h h1 h2 h3 => ot (by rw [h]; exact h1) (by rw [h]; exact h2) (by rw [h]; exact h3)
  have iar : ∀ (S2 : CS) (s2 : RS), S2.i 56 = S.i 56 → S2.i 53 = S.i 53 → S2.r = S.r → s2.i 43 = s.i 43 → s2.a 44 = s.a 44 → IAR S2 s2 := fun S2 s2 h1 h2 h3 h4 h5 => by
    have z := hC.2.2.2.2.2.2.2.2.2.1
    unfold IAR at *
    rw [h1, h2, h3, h4, h5]
    exact z
  have c21 := hC.2.2.2.2.2.2.2.2.1.1
  have c38 := hC.2.2.2.2.2.2.2.2.1.2.1
  unfold f_X7_plain at e
  rw [p43] at e
  by_cases d59 : S.i 43 = 59
  · rw [if_pos d59] at e
    exact st_semi hN hC hS hT hm d59 e1 (ob_un e) g
  rw [if_neg d59] at e
  by_cases d200 : S.i 43 = 200
  · rw [if_pos d200] at e
    exact OUTS.k hm hv (fun _ _ _ _ => Or.inr (fun q => (h1b q).1 d200)) (st_k (sx_tell hN hm1 hm2 hE) (by decide) (by decide) hC hS hT (fun S2 s2 h1 h2 _ _ _ _ h7 _ _ => ⟨Or.inl (h1.trans d200), by rw [h2, h7]; exact c38⟩) (fun V h => r_stat q4 (k200.mp d200) (by unfold kwd; decide) h) e1 e (fun P y u ev dn _ q _ _ => JOK.go q.2 q.1) g)
  rw [if_neg d200] at e
  by_cases d201 : S.i 43 = 201
  · rw [if_pos d201] at e
    exact OUTS.k hm hv (fun _ _ _ _ => Or.inr (fun q => (h1b q).2 d201)) (st_k (sx_tell hN hm1 hm2 hE) (by decide) (by decide) hC hS hT (fun S2 s2 h1 h2 _ _ _ _ h7 _ _ => ⟨Or.inr (h1.trans d201), by rw [h2, h7]; exact c38⟩) (fun V h => r_stat q4 (k201.mp d201) (by unfold kwd; decide) h) e1 e (fun P y u ev dn _ q _ _ => JOK.go q.2 q.1) g)
  rw [if_neg d201] at e
  by_cases d202 : S.i 43 = 202
  · rw [if_pos d202] at e
    exact OUTS.k hm hv (fun _ _ _ h => Or.inl h.1) (st_k (sx_log hN hm1 hm2 hE).d (by decide) (by decide) hC hS hT (fun S2 s2 h1 _ _ _ _ _ _ _ _ => ⟨trivial, h1.trans d202⟩) (fun V h => r_stat q4 (k202.mp d202) (by unfold kwd; decide) h) e1 e (fun P y u ev dn _ q _ _ => JOK.go (dn.cdw ev q.1 q.2.2) q.2.1) g)
  rw [if_neg d202] at e
  by_cases d208 : S.i 43 = 208
  · rw [if_pos d208] at e
    exact st_jump hN hC hS hT hm (ot' 208 d208 (by decide) (by decide) (by decide)) hB hBS hB2 (Or.inl d208) e1 (ob_un e) g
  rw [if_neg d208] at e
  by_cases d209 : S.i 43 = 209
  · rw [if_pos d209] at e
    exact st_jump hN hC hS hT hm (ot' 209 d209 (by decide) (by decide) (by decide)) hB hBS hB2 (Or.inr d209) e1 (ob_un e) g
  rw [if_neg d209] at e
  by_cases d210 : S.i 43 = 210
  · rw [if_pos d210] at e
    exact OUTS.k hm hv (fun _ _ _ h => Or.inl h.1) (st_k (sx_return hN hm1 hm2 hE).d (by decide) (by decide) hC hS hT (fun S2 s2 h1 _ _ h4 h5 h6 _ h8 h9 => ⟨iar S2 s2 h4 h5 h6 h8 h9, h1.trans d210⟩) (fun V h => r_stat q4 (k210.mp d210) (by unfold kwd; decide) h) e1 (ob_un e) (fun P y u ev dn _ q _ _ => JOK.no (dn.cdw ev q.1 q.2)) g)
  rw [if_neg d210] at e
  by_cases d211 : S.i 43 = 211
  · rw [if_pos d211] at e
    exact OUTS.k hm hv (fun _ _ _ h => Or.inl h.1) (st_k (sx_throw hN hm1 hm2 hE).d (by decide) (by decide) hC hS hT (fun S2 s2 h1 _ _ _ _ _ _ _ _ => ⟨trivial, h1.trans d211⟩) (fun V h => r_stat q4 (k211.mp d211) (by unfold kwd; decide) h) e1 (ob_un e) (fun P y u ev dn ku q _ _ => JOK.k3 (dn.cdw ev q.1 q.2) ku) g)
  rw [if_neg d211] at e
  by_cases d217 : S.i 43 = 217
  · rw [if_pos d217] at e
    exact OUTS.k hm hv (fun _ _ _ h => Or.inl h.1) (st_k (sx_assert hN hm1 hm2 hE hE2).d (by decide) (by decide) hC hS hT (fun S2 s2 h1 _ h3 _ _ _ h7 _ _ => ⟨by rw [h3, h7]; exact c21, h1.trans d217⟩) (fun V h => r_stat q4 (k217.mp d217) (by unfold kwd; decide) h) e1 (ob_un e) (fun P y u ev dn ku q _ _ => JOK.gk (dn.cdw ev q.1 q.2.2) q.2.1 ku) g)
  rw [if_neg d217] at e
  by_cases d221 : S.i 43 = 221
  · rw [if_pos d221] at e
    exact OUTS.k hm hv (fun _ _ _ h => Or.inl h.1) (st_k (sx_yield hN hm1 hm2 hE).d (by decide) (by decide) hC hS hT (fun S2 s2 h1 _ _ h4 h5 h6 _ h8 h9 => ⟨iar S2 s2 h4 h5 h6 h8 h9, h1.trans d221⟩) (fun V h => r_stat q4 (k221.mp d221) (by unfold kwd; decide) h) e1 (ob_un e) (fun P y u ev dn _ q eP ey => y_yok hC hS hB hY ev dn q.1 q.2 eP ey) g)
  rw [if_neg d221] at e
  have e2 := ob_un e
  unfold f_X7_compound at e2
  rw [p43] at e2
  by_cases d203 : S.i 43 = 203
  · rw [if_pos d203] at e2
    exact OUTS.m (st_if hN hm1 hm2 hE2 hC hS hT hm (ot' 203 d203 (by decide) (by decide) (by decide)) d203 e1 (ob_un e2) g)
  rw [if_neg d203] at e2
  by_cases d205 : S.i 43 = 205
  · rw [if_neg (show ¬ S.i 43 = 204 by rw [d205]; decide), if_pos d205] at e2
    exact OUTS.m (st_while hN hm1 hm2 hE2 hC hS hT hm (lp (Or.inl d205)) hB d205 e1 (ob_un e2) g)
  by_cases d206 : S.i 43 = 206
  · rw [if_neg (show ¬ S.i 43 = 204 by rw [d206]; decide), if_neg d205, if_pos d206] at e2
    exact OUTS.m (st_do hN hC hS hT hm (lp (Or.inr (Or.inl d206))) hB d206 e1 (ob_un e2) g)
  by_cases d207 : S.i 43 = 207
  · rw [if_neg (show ¬ S.i 43 = 204 by rw [d207]; decide), if_neg d205, if_neg d206, if_pos d207] at e2
    exact OUTS.m (st_for hN hm1 hm2 hE hE2 hC hS hT hm (lp (Or.inr (Or.inr d207))) hB d207 e1 (ob_un e2) g)
  by_cases d212 : S.i 43 = 212
  · rw [if_neg (show ¬ S.i 43 = 204 by rw [d212]; decide), if_neg d205, if_neg d206, if_neg d207, if_neg d208, if_neg d209, if_neg d210, if_neg d211, if_pos d212] at e2
    exact OUTS.n (st_lock hN hC hS hT hm (ot d205 d206 d207) d212 e1 (ob_un e2) g)
  by_cases d213 : S.i 43 = 213
  · rw [if_neg (show ¬ S.i 43 = 204 by rw [d213]; decide), if_neg d205, if_neg d206, if_neg d207, if_neg d208, if_neg d209, if_neg d210, if_neg d211, if_neg d212, if_pos d213] at e2
    exact OUTS.n (st_try hN hC hS hT hm (ot d205 d206 d207) d213 e1 (ob_un e2) g)
  by_cases d218 : S.i 43 = 218
  · rw [if_neg (show ¬ S.i 43 = 204 by rw [d218]; decide), if_neg d205, if_neg d206, if_neg d207, if_neg d208, if_neg d209, if_neg d210, if_neg d211, if_neg d212, if_neg d213, if_neg (show ¬ S.i 43 = 214 by rw [d218]; decide), if_neg (show ¬ S.i 43 = 215 by rw [d218]; decide), if_neg (show ¬ S.i 43 = 216 by rw [d218]; decide), if_neg d217, if_pos d218] at e2
    exact OUTS.n (st_switch hN hm1 hm2 hE hC hS hT hm (ot d205 d206 d207) d218 e1 (ob_un e2) g)
  -- misplaced
  have mis : ¬ R.2.i 32 = 0 := by
    rw [if_neg d205, if_neg d206, if_neg d207, if_neg d208, if_neg d209, if_neg d210, if_neg d211, if_neg d212, if_neg d213, if_neg d217, if_neg d218] at e2
    by_cases z4 : S.i 43 = 204
    · rw [if_pos z4] at e2
      exact y_misp (ob_un e2)
    rw [if_neg z4] at e2
    by_cases z14 : S.i 43 = 214
    · rw [if_pos z14] at e2
      exact y_misp (ob_un e2)
    rw [if_neg z14] at e2
    by_cases z15 : S.i 43 = 215
    · rw [if_pos z15] at e2
      exact y_misp (ob_un e2)
    rw [if_neg z15] at e2
    by_cases z16 : S.i 43 = 216
    · rw [if_pos z16] at e2
      exact y_misp (ob_un e2)
    rw [if_neg z16] at e2
    exact y_misp (ob_un e2)
  obtain ⟨m1, V1, hV1, g1⟩ := rl_2 g q4 hv.1.2.1 q5
  refine Or.inl ⟨mis, u_flt g1 (r_mst q4 (fun v h q => ?_) hV1)⟩
  rw [q] at k203 k205 k206 k207 k212 k213 k218 k200 k201 k202 k210 k221 k211 k217 k208 k209 k2 k59 k123
  rcases h with h | h | h | h | h | h | h | h | h | h | h | h | h | h | h | h | h | h | h
  · exact n123 (k123.mpr h)
  · exact d200 (k200.mpr h)
  · exact d201 (k201.mpr h)
  · exact n2 (k2.mpr h)
  · exact d202 (k202.mpr h)
  · exact d210 (k210.mpr h)
  · exact d221 (k221.mpr h)
  · exact d211 (k211.mpr h)
  · exact d217 (k217.mpr h)
  · exact d203 (k203.mpr h)
  · exact d205 (k205.mpr h)
  · exact d206 (k206.mpr h)
  · exact d207 (k207.mpr h)
  · exact d212 (k212.mpr h)
  · exact d218 (k218.mpr h)
  · exact d213 (k213.mpr h)
  · exact d59 (k59.mpr h)
  · exact d208 (k208.mpr h)
  · exact d209 (k209.mpr h)
/-- a statement, whole; x1: it is a body -/
theorem st_any {N : Nat} (hN : 1000 ≤ N) {E1 : CS → Option (Unit × CS)} {E2 : CS → Option (Int32 × CS)} (hm1 : ∀ σ, Kf (CS.i σ 32) (E1 σ)) (hm2 : ∀ σ, Kf (CS.i σ 32) (E2 σ)) (hE : SXR N 18 E1) (hE2 : SXN N 22 E2) {d : Int32} {B : CS} {b : RS} {t0 T n : Nat} {L : List CEL} {x : Int} {S : CS} {s U : RS} {c : CEL} {x1 : Int32} {R : Unit × CS} {Aj : JBA} (hY : YBA Aj U B b) (hC : COR d B b t0 (c :: L) x S s) (hS : STO c T S s) (hT : t0 ≤ T) (hm : NMC c S) (hx : S.o c.2.1 0 = 303 → x = lcd s) (hB : BOT b S (c :: L)) (hBS : BSE S (c :: L)) (hB2 : BO2 B b S (c :: L)) (h1b : isOne (S.o c.2.1 0) → ¬ s.i 10 = 410 ∧ ¬ s.i 10 = 411) (hx1 : x1 = 0 ∨ isOne (S.o c.2.1 0)) (e : f_X7_statement_18 N E1 E2 S x1 = some R) (g : f_X12_parse_10 N n s = some U) : OUTS N d B b t0 T c L x R.2 U (JTR Aj U B b (c :: L) S s) := by
  have hv := hC.1
  have k2 := tk_is hv (a := 2) (b := 2) (Or.inl ⟨by decide, by decide⟩) (by decide)
  have k123 := tk_is hv (a := 123) (b := 123) (Or.inl ⟨by decide, by decide⟩) (by decide)
  have k200 := tk_is hv (a := 200) (b := 410) (Or.inr ⟨by decide, by decide⟩) (by decide)
  have k201 := tk_is hv (a := 201) (b := 411) (Or.inr ⟨by decide, by decide⟩) (by decide)
  have i43 : (CS.setI (CS.setI S 36 1) 24 ((S.i 24) + 1)).i 43 = S.i 43 := by
    rw [ci_ne _ _ _ (by decide), ci_ne _ _ _ (by decide)]
  unfold f_X7_statement_18 at e
  obtain ⟨p2, ep2, e⟩ := hf_bind e
  by_cases c2 : S.i 43 = 2
  · rw [e_fnd1 (i43.trans c2)] at ep2
    rw [← Option.some.inj ep2, if_neg n10] at e
    have hx2 : S.o c.2.1 0 = 303 → x = -2 := fun z => by
      rw [hx z]
      unfold lcd
      rw [k2.mp c2, if_neg (by decide), if_pos rfl]
    exact st_named hN hm1 hm2 hE hC hS hT hm hx2 hB hBS c2 (ob_un e) g
  · rw [e_fnd0 (by rw [i43]; exact c2)] at ep2
    rw [← Option.some.inj ep2, if_pos rfl] at e
    obtain ⟨p7, ep7, e⟩ := hf_bind e
    by_cases c123 : S.i 43 = 123
    · rw [e_fnd1 (i43.trans c123)] at ep7
      rw [← Option.some.inj ep7, if_neg n10] at e
      obtain ⟨p35, e35, e⟩ := hf_bind e
      obtain ⟨p39, e39, e⟩ := hf_bind e
      have eR : R.2 = p39.2 := by
        cases h : p39.1 with
        | none =>
          rw [h] at e
          have e' : some ((), p39.2) = some R := e
          rw [← Option.some.inj e']
        | some a =>
          rw [h] at e
          have e' : some ((), p39.2) = some R := e
          rw [← Option.some.inj e']
      have hx2 : S.o c.2.1 0 = 303 → x = -1 := fun z => by
        rw [hx z]
        unfold lcd
        rw [k123.mp c123, if_neg (by decide), if_neg (by decide)]
      rw [eR]
      exact OUTS.n (st_block hN hC hS hT hm hx2 c123 e35 e39 g)
    · rw [e_fnd0 (by rw [i43]; exact c123)] at ep7
      rw [← Option.some.inj ep7, if_pos rfl] at e
      have e122 : f_X7_statement_122 N E1 E2 (CS.setI (CS.setI S 36 1) 24 ((S.i 24) + 1)) = some R := by
        by_cases z : x1 = 0
        · rw [if_pos z] at e
          exact e
        · obtain ⟨z1, z2⟩ := h1b (hx1.resolve_left z)
          rw [if_neg z] at e
          obtain ⟨p21, ep21, e⟩ := hf_bind e
          rw [e_fnd0 (by rw [i43]; exact fun q => z1 (k200.mp q))] at ep21
          rw [← Option.some.inj ep21, if_pos rfl] at e
          obtain ⟨p30, ep30, e⟩ := hf_bind e
          rw [e_fnd0 (by rw [i43]; exact fun q => z2 (k201.mp q))] at ep30
          rw [← Option.some.inj ep30, if_pos rfl] at e
          exact e
      unfold f_X7_statement_122 at e122
      obtain ⟨p, e1, e122⟩ := hf_bind e122
      exact st_plain hN hm1 hm2 hE hE2 hY hC hS hT hm hx hB hBS hB2 (fun q => ⟨fun w => (h1b q).1 (k200.mp w), fun w => (h1b q).2 (k201.mp w)⟩) c2 c123 e1 (ob_un e122) g
