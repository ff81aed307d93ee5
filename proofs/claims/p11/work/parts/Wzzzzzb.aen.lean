/-! both readers: an arm's block ends -/
theorem am_flt {N : Nat} {s U V : RS} {x1 : Int32} (h15 : s.i 15 = 0) (k' : ¬ s.i 10 = 125) (hV : f_X12_arms_435 N s x1 = some V) : ¬ V.i 15 = 0 := by
  unfold f_X12_arms_435 at hV
  obtain ⟨p3, hsh, hV⟩ := hf_bind hV
  obtain ⟨-, hV⟩ := hf_ite hV
  have z3 : ¬ p3.2.i 15 = 0 := by
    unfold f_X12_shut f_X12_shut_18 f_X12_need f_X12_need_27 f_X12_need_31 at hsh
    rw [if_pos h15, if_neg k'] at hsh
    obtain ⟨w, gw, hsh⟩ := hf_bind hsh
    obtain ⟨q, gq, gw⟩ := hf_bind gw
    obtain ⟨q1, q2⟩ := y_can0 gq
    rw [if_pos q1, if_neg q2] at gw
    cases gw
    have g2 : (if q.2.i 15 = 0 then some ((1 : Int32), q.2) else some (0, q.2)) = some p3 := (if_pos rfl).symm.trans hsh
    rw [if_neg q2] at g2
    rw [← Option.some.inj g2]
    exact q2
  rw [← Option.some.inj hV]
  exact z3
/-- the reference at the arm's end -/
theorem am_ref {N : Nat} {d : Int32} {S : CS} {V0 U : RS} {t n : Nat} (ev : ENV d S V0) (tV : tpI V0 = (t : Int)) (v64 : V0.a 64 t = 19) (v65 : V0.a 65 t = 6) (g : f_X12_parse_10 N n V0 = some U) : t < 1000 ∧ ∃ (m : Nat) (V1 : RS), f_X12_parse_10 N m V1 = some U ∧ (if V0.i 75 = 0 then f_X12_arms_435 N V0 (V0.i 63) else (if V0.i 10 = 125 then (f_X12_note N V0 (V0.i 11)).bind fun p75 => f_X12_arms_435 N p75 (V0.i 63) else f_X12_arms_435 N V0 (V0.i 63))) = some V1 := by
  obtain ⟨m, V1, hV, g2⟩ := rl_19 g tV ev.1.2.1 v64
  unfold f_X12_arms at hV
  obtain ⟨hib, hV⟩ := hf_ite hV
  have t9 : t < 1000 := by
    have h2 : (V0.i 63).toInt = (t : Int) := tV
    have := hib.2
    omega
  rw [tp_nat tV, v65, if_neg (by decide), if_neg (by decide), if_neg (by decide), if_neg (by decide), if_neg (by decide), if_neg (by decide), if_pos rfl] at hV
  exact ⟨t9, m, V1, g2, hV⟩
/-- what a list of entries says at its bottom -/
theorem TYC.lo {s0 : CS} {r0 : RS} {A : Als} {W : Nat} : ∀ {c : List Ent}, TYC s0 r0 A W c → 1300 ≤ W
  | [], h => h.2
  | _ :: _, ⟨_, _, h⟩ => TYC.lo h
theorem TYC.lt {s0 : CS} {r0 : RS} {A : Als} {W : Nat} : ∀ {c : List Ent}, TYC s0 r0 A W c → LTGD r0 A
  | [], h => h.1
  | _ :: _, ⟨_, _, h⟩ => TYC.lt h
theorem note_nn {N : Nat} {s V : RS} {x : Int32} (h15 : s.i 15 = 0) (hx : 0 ≤ x) (g : f_X12_note N s x = some V) : 0 ≤ V.i 18 := by
  unfold f_X12_note at g
  rw [if_pos h15] at g
  by_cases z : 0 ≤ s.i 18
  · rw [if_pos z] at g
    rw [← Option.some.inj g]
    exact z
  · rw [if_neg z] at g
    rw [← Option.some.inj g]
    exact hx
set_option maxHeartbeats 4000000 in
/-- the code of an arm's block, from its rows' -/
theorem arm_cod {x : Int32} {t a m : Nat} {S0 W S R : CS} {s0 b s v U : RS} {c : CEL} (hr : ABR x t a m S0 s0 W b) (n50 : S0.i 50 = s0.i 38) (h11 : (s0.i 11).toInt ≤ 900) (v2 : (vw S s c).v = 302) (jw : JRW (ARB U W b a ((s0.i 43).toInt - 1).toNat) U W b [vw S s c] S s) (tb : (b.i 38).toInt ≤ (s.i 38).toInt) (i44 : (S.i 44).toInt + 1 ≤ (R.i 44).toInt) (ri : R.i 20 = S.i 20 ∧ R.i 21 = S.i 21 ∧ R.i 22 = S.i 22 ∧ R.i 23 = S.i 23) (r38 : R.i 38 = S0.i 38) (r50 : R.i 50 = S0.i 50) (ra : ∀ k : Nat, (k = 15 ∨ k = 16 ∨ k = 17 ∨ k = 19 ∨ k = 48 ∨ k = 49) → R.a k = S.a k) (vi : ∀ k : Nat, (k = 20 ∨ k = 24 ∨ k = 29 ∨ k = 33 ∨ k = 42 ∨ k = 52) → v.i k = s.i k) (va : ∀ k : Nat, (k = 21 ∨ k = 22 ∨ k = 23 ∨ k = 25 ∨ k = 26 ∨ k = 27 ∨ k = 28 ∨ k = 30 ∨ k = 31 ∨ k = 32 ∨ k = 34 ∨ k = 35 ∨ k = 36 ∨ k = 37) → v.a k = s.a k) (late : S.i 36 = 1 → 0 ≤ U.i 18) : ABD x t U S0 s0 R v := by
  intro q0 hq0 crb g47
  obtain ⟨⟨-, -, -, -, -, w38, -, w44, -⟩, -, -, ⟨bi, -, ba, -⟩, ⟨wx, w2, ⟨w20, w21, w22, w23, w50⟩, ⟨w15, w16, w17, w19, w48, w49⟩⟩⟩ := hr
  obtain ⟨r20, r21, r22, r23⟩ := ri
  obtain ⟨⟨b01, b02⟩, b03, b04, b05, b06⟩ := id crb
  have crW : CRQB W := ⟨⟨⟨⟨by rw [w20]; exact b01, by rw [w20]; omega⟩, by rw [w21]; exact b03, by rw [w21]; omega, by rw [w23]; exact b05, by rw [w23]; omega⟩, by rw [w20]; omega⟩, by rw [w21]; omega, by rw [w23]; omega⟩
  obtain ⟨⟨e', he', k1⟩, ⟨k2, n8⟩, k3, Ψ, G, col, YJ, sax, -, -, -, main⟩ := jw crW
  have le1 : e' ≤ 1 := by rcases he' with z | ⟨z, -⟩ <;> omega
  obtain ⟨⟨a1, a2, a3⟩, a4, a5, ⟨a6, a7⟩, a8, a9⟩ := k1
  have bk : ∀ k : Nat, (k = 21 ∨ k = 22 ∨ k = 23 ∨ k = 25 ∨ k = 26 ∨ k = 27 ∨ k = 28 ∨ k = 30 ∨ k = 31 ∨ k = 32 ∨ k = 34 ∨ k = 35 ∨ k = 36 ∨ k = 37 ∨ k = 40 ∨ k = 47) → b.a k = s0.a k := fun k hk => ba k (by omega) (by omega)
  have s52 : s.i 52 = s0.i 52 := by
    rw [n8.2, show sl32 [vw S s c] = 0 + d32 (vw S s c).v from rfl, d32.no (by rw [v2]; decide), Int32.add_zero, Int32.add_zero, bi]
  rw [w20] at a1 a2
  rw [w21] at a3 a5
  rw [w22] at a8
  rw [w23] at a6 a7
  have cd1 : CD1 0 (-1) S0 R := by
    refine ⟨⟨by rw [r20]; exact a1, by rw [r20]; omega, by rw [r21]; omega⟩, fun j hj => ?_, by rw [r21]; exact a5, by rw [r50]; exact Int.le_refl _, fun k hk => ?_, ⟨by rw [r23]; exact a6, by rw [r23]; omega⟩, r38, by rw [r22]; exact a8, fun k hk => ?_⟩
    · have z := a4 j (by rw [w20]; exact hj)
      rw [ra 15 (by decide), ra 16 (by decide), z.1, z.2, w15, w16]
      exact ⟨rfl, rfl⟩
    · rw [n50] at hk
      have hk' : (k : Int) < (b.i 38).toInt := by rw [bi]; exact hk
      have z := n8.1 k hk' (by omega)
      rw [ra 48 (by decide), ra 49 (by decide), z.1, z.2, w48, w49]
      exact ⟨rfl, rfl⟩
    · rw [ra 19 (by decide), a9 k (by rw [w22]; exact hk), w19]
  have ct7 : CT7 0 (S0.i 21).toInt S0 R := fun k k1' k2' => by
    rw [ra 17 (by decide), k2 k k1' (by rw [w21]; exact k2'), w17]
  rw [bi] at k3
  obtain ⟨⟨c1, c2, c3, c4, c5⟩, c6, c7, c8, c9⟩ := k3
  rw [bi] at c1 c2 c3 c4 c7 c8 c9
  have slc : SLC s0 v := fun q => by
    have z := c5 (by unfold SLO at q ⊢; rw [bi]; exact q)
    unfold SLO at z ⊢
    rw [vi 42 (by decide), vi 20 (by decide)]
    rw [bi] at z
    exact z
  have cd2 : CD2 (s0.i 20).toInt s0 v := by
    refine ⟨⟨by rw [vi 20 (by decide)]; exact c1, by rw [vi 24 (by decide)]; exact c2, by rw [vi 29 (by decide)]; exact c3, by rw [vi 33 (by decide)]; exact c4, slc, by rw [vi 52 (by decide)]; exact s52⟩, fun j hj => ?_, fun j hj => ?_, fun j hj => ?_, fun j hj => ?_⟩
    · have z := c6 j hj
      rw [bk 21 (by decide), bk 22 (by decide), bk 23 (by decide)] at z
      rw [va 21 (by decide), va 22 (by decide), va 23 (by decide)]
      exact z
    · have z := c7 j hj
      rw [bk 25 (by decide), bk 26 (by decide), bk 27 (by decide), bk 28 (by decide)] at z
      rw [va 25 (by decide), va 26 (by decide), va 27 (by decide), va 28 (by decide)]
      exact z
    · have z := c8 j hj
      rw [bk 30 (by decide), bk 31 (by decide), bk 32 (by decide)] at z
      rw [va 30 (by decide), va 31 (by decide), va 32 (by decide)]
      exact z
    · have z := c9 j hj
      rw [bk 34 (by decide), bk 35 (by decide), bk 36 (by decide), bk 37 (by decide)] at z
      rw [va 34 (by decide), va 35 (by decide), va 36 (by decide), va 37 (by decide)]
      exact z
  obtain ⟨s2, t2, g2, d2, l2, j2, nv2⟩ := v302 (r := vw S s c) (Or.inr v2)
  have nx : ∀ {P : RVW → Prop} {q : RVW}, ¬ P q → (∃ w ∈ [q], P w) → False := fun hn ⟨w, hw, p⟩ => hn (by rw [← List.mem_singleton.mp hw]; exact p)
  refine ⟨cd1, ct7, cd2, Ψ, fun sl => ?_, ?_⟩
  · have slb : SLO b := by unfold SLO at sl ⊢; rw [bi]; exact sl
    obtain ⟨⟨z1, -⟩, F, M, z2, z3⟩ := sax slb
    refine ⟨?_, F, M, ?_, fun FC nm gh => z3 FC nm ⟨fun y y1 y2 _ => gh.1 y (by rw [bi] at y1; exact y1) (by rw [vi 29 (by decide)]; exact y2), fun k l q => gh.2 k l ?_⟩⟩
    · unfold SLO at z1 ⊢
      rw [vi 42 (by decide), vi 20 (by decide)]
      exact z1
    · unfold GHM at z2 ⊢
      rw [r23, vi 42 (by decide)]
      rw [w23, bi] at z2
      exact z2
    · rw [r23, vi 42 (by decide)]
      rw [w23, bi] at q
      exact q
  intro FC SF nm X c' h w W' we g0 ps fc fr ng hc hh ty hW hE ex hg
  have lo := ty.lo
  have cdW : CD1 0 0 S0 W := ⟨⟨by rw [w20]; exact Int.le_refl _, by rw [w20]; omega, by rw [w21]; omega⟩, fun j _ => by rw [w15, w16]; exact ⟨rfl, rfl⟩, by rw [w21]; exact Int.le_refl _, by rw [w50]; exact Int.le_refl _, fun k _ => by rw [w48, w49]; exact ⟨rfl, rfl⟩, ⟨by rw [w23]; exact Int.le_refl _, by rw [w23]; omega⟩, w38, by rw [w22]; exact Int.le_refl _, fun k _ => by rw [w19]⟩
  have cdb : CD2 0 s0 b := ⟨⟨by rw [bi]; exact Int.le_refl _, by rw [bi]; exact Int.le_refl _, by rw [bi]; exact Int.le_refl _, by rw [bi]; exact Int.le_refl _, SLC.eq (by rw [bi]) (by rw [bi]; exact Int.le_refl _), by rw [bi]⟩, fun j _ => by rw [bk 21 (by decide), bk 22 (by decide), bk 23 (by decide)]; exact ⟨rfl, rfl, rfl⟩, fun j _ => by rw [bk 25 (by decide), bk 26 (by decide), bk 27 (by decide), bk 28 (by decide)]; exact ⟨rfl, rfl, rfl, rfl⟩, fun j _ => by rw [bk 30 (by decide), bk 31 (by decide), bk 32 (by decide)]; exact ⟨rfl, rfl, rfl⟩, fun j _ => by rw [bk 34 (by decide), bk 35 (by decide), bk 36 (by decide), bk 37 (by decide)]; exact ⟨rfl, rfl, rfl, rfl⟩⟩
  have ngb : NMG nm ((5, h, q0, 0, 0, 0, 0) :: c') W b := ng.mv n50 cdW cdb (by rw [bi]) (fun j _ => by rw [bk 40 (by decide)]) (by rw [bi]; exact Int.le_refl _)
  have mw : ((2 * h + msr ((5, h, q0, 0, 0, 0, 0) :: c') : Nat) : Int) ≤ (b.i 11).toInt + 1 := by
    rw [msr_arm, bi]
    omega
  have pS0 : ((pcC S0 : Nat) : Int) = (S0.i 20).toInt := Int.toNat_of_nonneg b01
  have pR : ((pcC R : Nat) : Int) = (R.i 20).toInt := Int.toNat_of_nonneg (by rw [r20]; omega)
  have pW : pcC W = pcC S0 := by unfold pcC; rw [w20]
  have pb : pcR b = pcR s0 := by unfold pcR; rw [bi]
  have lR : pcC S0 ≤ pcC R := by
    rw [r20] at pR
    omega
  obtain ⟨-, mn⟩ := main FC SF nm X h (w + pcC R) ((5, h, q0, 0, 0, 0, 0) :: c') ps ngb hc.arm mw (by omega)
  obtain ⟨⟨f1, f1'⟩, f2, f3⟩ := fc
  obtain ⟨⟨g1, g1', g1''⟩, g3, g4, g5, g6⟩ := fr
  have ex' := ex
  obtain ⟨pe', qe', -, -, -, x0, x5⟩ := ex'
  have frs' : (S0.i 38).toInt = (frs c' : Int) := by
    have z := ng.2.1
    have z' : (((frs c' + (if (5 : Nat) ≤ 3 then 1 else 0) : Nat)) : Int) = (S0.i 38).toInt := z
    rw [if_neg (by decide)] at z'
    omega
  have l47 : (b.a 47 ((s0.i 43).toInt - 1).toNat).toInt = (c'.length : Int) + 1 := by
    have z := ng.2.2.1
    have z' : ((c'.length + 1 : Nat) : Int) = (s0.i 52).toInt := z
    rw [bk 47 (by decide), g47.2]
    omega
  have hA : ARB U W b a ((s0.i 43).toInt - 1).toNat FC SF nm X h (w + pcC R) ((5, h, q0, 0, 0, 0, 0) :: c') := ⟨by rw [wx]; exact ⟨x0, x5⟩, q0, we, c', rfl, by omega, by omega, by rw [wx]; exact ex, by rw [w2]; exact frs', l47⟩
  have gu := (mn ⟨⟨by rw [w20]; exact f1, by rw [← r20]; exact f1'⟩, fun j j1 j2' => ?_, fun k k1' k2' k3' => ?_⟩ ⟨⟨by rw [bi]; exact g1, by rw [← vi 20 (by decide)]; exact g1', g1''⟩, fun j j1 j2' => ?_, fun j j1 j2' => ?_, fun j j1 j2' _ => ?_, fun j j1 j2' => ?_⟩ hA ((ty.up (by omega)).arm) ⟨⟨fun z => absurd z (nv2 _ (by decide)), fun z => absurd z (nv2 _ (by decide)), fun z => absurd z (nv2 _ (by decide)), fun z => absurd z (nv2 _ (by decide)), fun z => absurd z (nv2 _ (by decide)), fun z => absurd z (nv2 _ (by decide)), fun z => absurd z (nv2 _ (by decide)), fun z => absurd z t2, fun z => absurd z g2⟩, True.intro⟩ (fun z => ⟨ty.lt (late z) _ _ _ _ _ _ (by decide), ty.lt (late z) _ _ _ _ _ _ (by decide)⟩)).1
  · rw [pW, pb] at gu
    have ew : w + pcC R - pcC S0 = w + (pcC R - pcC S0) := by omega
    rw [ew] at gu
    have hg' : g0 = 0 ∨ g0 = 1 := by omega
    rcases hg' with z | z
    · rw [z]
      exact gu.1
    · rw [z]
      exact gu.2
  · have z := f2 j (by rw [w20] at j1; exact j1) (by rw [r20]; exact j2')
    rw [ra 15 (by decide), ra 16 (by decide)] at z
    exact z
  · have z := f3 k (by rw [w21] at k1'; exact k1') (by rw [r21]; exact k2') (by rw [ra 17 (by decide), r21]; exact k3'.imp_right (fun q => q.1))
    rw [ra 17 (by decide)] at z
    exact z
  · have z := g3 j (by rw [bi] at j1; exact j1) (by rw [vi 20 (by decide)]; exact j2')
    rw [va 21 (by decide), va 22 (by decide), va 23 (by decide)] at z
    exact ⟨z.1, fun _ => z.2.1, fun _ => z.2.2⟩
  · have z := g4 j (by rw [bi] at j1; exact j1) (by rw [vi 24 (by decide)]; exact j2')
    rw [va 25 (by decide), va 26 (by decide), va 27 (by decide), va 28 (by decide)] at z
    exact ⟨z.1, z.2.1, fun _ => z.2.2.1, z.2.2.2⟩
  · have z := g5 j (by rw [bi] at j1; exact j1) (by rw [vi 29 (by decide)]; exact j2')
    rw [va 30 (by decide), va 31 (by decide), va 32 (by decide)] at z
    exact z
  · have z := g6 j (by rw [bi] at j1; exact j1) (by rw [vi 33 (by decide)]; exact j2')
    rw [va 34 (by decide), va 35 (by decide), va 36 (by decide), va 37 (by decide)] at z
    exact ⟨z.1, z.2.1, z.2.2.1, fun _ => z.2.2.2⟩
set_option maxHeartbeats 4000000 in
theorem ab_end {N : Nat} (hN : 1000 ≤ N) {E1 : CS → Option (Unit × CS)} {E2 : CS → Option (Int32 × CS)} {d x0 : Int32} {S0 W : CS} {s0 b : RS} {t a m n : Nat} {S : CS} {s U : RS} {c : CEL} {P : Unit × CS} (hv0 : ENV d S0 s0) (hr : ABR x0 t a m S0 s0 W b) (h036 : S0.i 36 = 0 ∨ S0.i 36 = 1) (h : STI (ARB U W b a ((s0.i 43).toInt - 1).toNat) U d W b (t + 1) S s c []) (tk : S.i 43 = 125 ∨ S.i 43 = 0 ∨ S.i 43 = 219 ∨ S.i 43 = 220) (k : KTN N E1 E2 S c.2.1 P) (g : f_X12_parse_10 N n s = some U) : (¬ P.2.i 32 = 0 ∧ ¬ U.i 15 = 0) ∨ ((P.2.i 53).toInt ≤ (m : Int) ∧ ∃ (mm : Nat) (u : RS), f_X12_parse_10 N mm u = some U ∧ AXO d t S0 s0 (CS.setI (CS.setI P.2 56 (P.2.o a 16)) 36 (S0.i 36)) u ∧ ABD x0 t U S0 s0 (CS.setI (CS.setI P.2 56 (P.2.o a 16)) 36 (S0.i 36)) u) := by
  obtain ⟨x, hC, tp, ⟨hM, h36⟩, bz, bt, -, jx⟩ := h
  have hr' := hr
  have hv := hC.1
  have cb := hC.2.2.2.2.1
  obtain ⟨⟨⟨r1, r2⟩, r53, r54, r55, r22, r38, r21, r44, r56⟩, ⟨ra18, ra52, rrow, rro⟩, ⟨rm, ro0, ro3, ro16, ro14⟩, ⟨bi, bb, ba, baj⟩, -⟩ := hr
  obtain ⟨-, ⟨z43, -⟩, z56, -, -, ⟨b7, b8, -⟩, -⟩ := id bz
  have ec1 : c.1 = m := by omega
  have ec2 : c.2.1 = a := by
    rw [ec1, rm] at b8
    exact (Option.some.inj b8).symm
  have eo : S.o a = W.o a := by
    have z := (cb.2.1 c.1 c.2.1 (by omega) b8).1
    rw [ec2] at z
    exact z
  rw [ec2] at k
  have h302 : S.o a 0 = 302 := by rw [eo]; exact ro0
  have bt' : t + 1 + 1 = ceT c + wid (W.o c.2.1 0) := bt
  have wdW : wid (W.o c.2.1 0) = 2 := by rw [ec2, ro0]; rfl
  have et : ceT c = t := by omega
  have wdS : wid (S.o c.2.1 0) = 2 := by rw [ec2, h302]; rfl
  have no : ¬ isOne (S.o a 0) := by rw [h302]; unfold isOne; decide
  have hL : MLI c S s := by
    rcases hM with z | z | z | z | z
    · exact z
    · exact absurd z.1 (by rw [ec2]; exact no)
    · exact absurd z.1 (by rw [ec2]; exact no)
    · have z1 := z.1
      rw [ec2] at z1
      exact absurd (h302.symm.trans z1) (by decide)
    · have z1 := z.1
      rw [ec2] at z1
      exact absurd (h302.symm.trans z1) (by decide)
  obtain ⟨-, -, ts, h64, hmode, -⟩ := hL
  have ix : ceT c + wid (S.o c.2.1 0) - 1 = t + 1 := by omega
  rw [ix] at h64 hmode
  have ts' : tpI s = ((t + 1 : Nat) : Int) := by
    rw [ts, wdS, et]
    omega
  obtain ⟨m1', e1', k1', m2', e2', k2', cst⟩ := STK.mem _ _ _ _ hC.2.1 c List.mem_cons_self
  obtain ⟨f64, f65, f71, -⟩ := cst.2.2.1.2.2.1 (by rw [ec2]; exact h302)
  rw [et] at f64 f65 f71
  rw [ec2] at f71
  have k125 := tk_is hv (a := 125) (b := 125) (Or.inl ⟨by decide, by decide⟩) (by decide)
  have k9 := tk_is hv (a := 219) (b := 429) (Or.inr ⟨by decide, by decide⟩) (by decide)
  have k20 := tk_is hv (a := 220) (b := 430) (Or.inr ⟨by decide, by decide⟩) (by decide)
  have k0 := tk_is hv (a := 0) (b := 0) (Or.inl ⟨by decide, by decide⟩) (by decide)
  have h10 : s.i 10 = 125 ∨ s.i 10 = 429 ∨ s.i 10 = 430 ∨ s.i 10 = 0 := by
    rcases tk with z | z | z | z
    · exact Or.inl (k125.mp z)
    · exact Or.inr (Or.inr (Or.inr (k0.mp z)))
    · exact Or.inr (Or.inl (k9.mp z))
    · exact Or.inr (Or.inr (Or.inl (k20.mp z)))
  obtain ⟨m0, V0, g0, n1, n2, n3, n4, n5, n6, n7, n8, n9, n19, n64, ni, na, nbb⟩ := y_lend hv ts' h64 hmode h36 h10 g
  have tV : tpI V0 = (t : Int) := by rw [n2]; omega
  have fT := n3 t (by omega)
  obtain ⟨t9, m1, V1, g1, hV⟩ := am_ref n1 tV (fT.1.trans f64) (fT.2.1.trans f65) g0
  by_cases c125 : S.i 43 = 125
  · -- the sign
    right
    have k10 : V0.i 10 = 125 := n7.trans (k125.mp c125)
    -- note
    have nt : ∃ (S' : CS) (V' : RS), ENV d S' V' ∧ (S' = S ∨ S' = CS.setI S 37 (S.i 44)) ∧ (V' = V0 ∨ V' = RS.setI V0 18 (V0.i 11)) ∧ f_X7_endList_72 N S' a = some P ∧ f_X12_arms_435 N V' (V0.i 63) = some V1 ∧ (S.i 36 = 1 → 0 ≤ V'.i 18) := by
      rcases k with ⟨z, -⟩ | ⟨⟨z, -⟩, -⟩ | ⟨⟨z, -⟩, -⟩ | ⟨-, -, k⟩ | ⟨⟨-, z⟩, -⟩ | ⟨-, ⟨q1, -⟩, -⟩
      · exact absurd z no
      · exact absurd (h302.symm.trans z) (by decide)
      · exact absurd (h302.symm.trans z) (by decide)
      · unfold f_X7_endList at k
        obtain ⟨-, k⟩ := hf_ite k
        rw [if_neg (by rw [h302]; decide), if_pos h302] at k
        by_cases z : S.i 36 = 0
        · rw [if_pos z] at k
          rw [if_pos (n5.trans z)] at hV
          exact ⟨S, V0, n1, Or.inl rfl, Or.inl rfl, k, hV, fun y => absurd (z.symm.trans y) (by decide)⟩
        · rw [if_neg z] at k
          rw [if_neg (by rw [n5]; exact z), if_pos k10] at hV
          obtain ⟨p49, e49, k⟩ := hf_bind k
          obtain ⟨p75, e75, hV⟩ := hf_bind hV
          obtain ⟨y1, y2, y3⟩ := y_note n1 e49 e75
          exact ⟨p49.2, p75, y1, y2, y3, k, hV, fun _ => note_nn n1.1.2.1 (Int32.le_iff_toInt_le.mpr (by have := (i11_hi n1).1; rw [z_t0]; omega)) e75⟩
      · exact absurd (h302.symm.trans z) (by decide)
      · exact absurd c125 q1
    obtain ⟨S', V', evV, hS', hV', e72, hV435, late⟩ := nt
    clear hV
    have Si : ∀ j : Nat, j ≠ 37 → S'.i j = S.i j := fun j hj => by
      rcases hS' with z | z
      · rw [z]
      · rw [z, ci_ne _ _ _ hj]
    have Sx : S'.r = S.r ∧ S'.o = S.o ∧ S'.ol = S.ol ∧ S'.a = S.a ∧ (S'.hs = S.hs ∧ S'.L = S.L ∧ S'.k = S.k) := by
      rcases hS' with z | z <;> rw [z] <;> exact ⟨rfl, rfl, rfl, rfl, rfl, rfl, rfl⟩
    have Vi : ∀ j : Nat, j ≠ 18 → V'.i j = V0.i j := fun j hj => by
      rcases hV' with z | z
      · rw [z]
      · rw [z]
        exact if_neg hj
    have Vx : V'.a = V0.a ∧ V'.b = V0.b := by
      rcases hV' with z | z <;> rw [z] <;> exact ⟨rfl, rfl⟩
    clear hS' hV'
    have S43 : S'.i 43 = 125 := (Si 43 (by decide)).trans c125
    unfold f_X12_arms_435 at hV435
    obtain ⟨p71, hsh, hV435⟩ := hf_bind hV435
    obtain ⟨-, hV435⟩ := hf_ite hV435
    rw [tp_nat tV] at hV435
    unfold f_X7_endList_72 at e72
    obtain ⟨p4, e4, e72⟩ := hf_bind e72
    obtain ⟨A, q, eA, hq, evA, R4, V4, -⟩ := y_clsA hN evV (c := 125) (d := 125) (Or.inl ⟨by decide, by decide⟩) (by decide) (by decide) (by decide) S43 e4 hsh
    obtain ⟨-, a2, a3, a4, a5, a6, a7, a8, a9, a10⟩ := evV.adv hN (by rw [S43]; decide) eA hq
    obtain ⟨-, -, -, -, -, -, -, -, -, -, j36, -, j38, j50, j53, j54, j55, j56, -, -, j48, j49, j52, jr, jo, jol, -, j21, jhk⟩ := pj_eq a3
    obtain ⟨-, e72⟩ := hf_ite e72
    have Ao : A.2.o = S.o := jo.trans Sx.2.1
    have o4 : ∀ w : Int32, (CS.setI p4.2 50 w).o a 0 = 302 := fun w => by
      show p4.2.o a 0 = 302
      rw [R4]
      show A.2.o a 0 = 302
      rw [Ao]
      exact h302
    rw [if_neg (by rw [o4]; decide), if_neg (by rw [o4]; decide), if_neg (by rw [o4]; decide), if_neg (by rw [o4]; decide), if_neg (by rw [o4]; decide), if_neg (by rw [o4]; decide), if_neg (by rw [o4]; decide)] at e72
    have ep := ob_un e72
    have o3 : p4.2.o a 3 = S0.i 50 := by
      rw [R4]
      show A.2.o a 3 = _
      rw [Ao, eo]
      exact ro3
    rw [o3] at ep
    have A53 : A.2.i 53 = S.i 53 := j53.trans (Si 53 (by decide))
    have t1 := tp.1
    have A53i : (A.2.i 53).toInt = (m : Int) + 1 := by rw [A53, t1, ec1]
    -- the class's last state
    obtain ⟨pv, hpv, eP⟩ : ∃ pv : Int32, pv.toInt = (m : Int) ∧ P.2 = CS.setI (CS.setI (CS.setI A.2 34 (A.2.i 34 - 1)) 50 (S0.i 50)) 53 pv := by
      unfold f_X6_pop at ep
      have i53 : (CS.setI p4.2 50 (S0.i 50)).i 53 = A.2.i 53 := by rw [ci_ne _ _ _ (by decide), R4, ci_ne _ _ _ (by decide)]
      rw [i53] at ep
      have q1 := m1_int A53i
      rw [R4] at ep
      by_cases z : 0 < A.2.i 53 - 1
      · rw [if_pos z] at ep
        exact ⟨_, q1, by rw [← Option.some.inj ep]⟩
      · rw [if_neg z] at ep
        refine ⟨0, ?_, by rw [← Option.some.inj ep]⟩
        rw [z_t0]
        have : ¬ (0 : Int32).toInt < (A.2.i 53 - 1).toInt := fun y => z (Int32.lt_iff_toInt_lt.mpr y)
        rw [z_t0, q1] at this
        omega
    have P16 : P.2.o a 16 = S0.i 56 := by
      rw [eP]
      show A.2.o a 16 = _
      rw [Ao, eo]
      exact ro16
    have eR : CS.setI (CS.setI P.2 56 (P.2.o a 16)) 36 (S0.i 36) = CS.setI (CS.setI (CS.setI (CS.setI (CS.setI A.2 50 (S0.i 50)) 53 pv) 56 (S0.i 56)) 36 (S0.i 36)) 34 (A.2.i 34 - 1) := by
      rw [P16, eP, csI_comm (s := A.2) (j := 34) (k := 50) (by decide), csI_comm (j := 34) (k := 53) (by decide), csI_comm (j := 34) (k := 56) (by decide), csI_comm (j := 34) (k := 36) (by decide)]
    have q71 : q.a 71 t = S0.i 50 := by
      rw [((FRB.of a2 : FRB (t + 1) V' q) t (by omega)).2.2.2.2.2.2.2.1, Vx.1, fT.2.2.2.2.2.2.2.1, f71, eo]
      exact ro3
    have s50 := hv0.2.1.1
    have eV : V1 = RS.setA (RS.setI (RS.setI q 38 (S0.i 50)) 19 (q.i 19 - 1)) 65 t 2 := by
      rw [← Option.some.inj hV435, V4, ← q71, rsI_comm (r := q) (j := 38) (k := 19) (by decide)]
      rfl
    obtain ⟨Y, hY⟩ : ∃ Y, Y = CS.setI (CS.setI (CS.setI (CS.setI A.2 50 (S0.i 50)) 53 pv) 56 (S0.i 56)) 36 (S0.i 36) := ⟨_, rfl⟩
    have Yi : ∀ j : Nat, j ≠ 36 → j ≠ 50 → j ≠ 53 → j ≠ 56 → Y.i j = A.2.i j := fun j h1 h2 h3 h4 => by rw [hY, ci_ne _ _ _ h1, ci_ne _ _ _ h4, ci_ne _ _ _ h3, ci_ne _ _ _ h2]
    have Y36 : Y.i 36 = S0.i 36 := by rw [hY, ci_at]
    have Y56 : Y.i 56 = S0.i 56 := by rw [hY, ci_ne _ _ _ (by decide), ci_at]
    have Y53 : Y.i 53 = pv := by rw [hY, ci_ne _ _ _ (by decide), ci_ne _ _ _ (by decide), ci_at]
    have Y50 : Y.i 50 = S0.i 50 := by rw [hY, ci_ne _ _ _ (by decide), ci_ne _ _ _ (by decide), ci_ne _ _ _ (by decide), ci_at]
    have Yx : Y.r = A.2.r ∧ Y.o = A.2.o ∧ Y.ol = A.2.ol ∧ Y.a = A.2.a ∧ Y.b = A.2.b ∧ Y.l = A.2.l ∧ (Y.hs = A.2.hs ∧ Y.L = A.2.L ∧ Y.k = A.2.k) := by rw [hY]; exact ⟨rfl, rfl, rfl, rfl, rfl, rfl, rfl, rfl, rfl⟩
    rw [← hY] at eR
    clear hY
    -- all that stands at the arm's end
    have tbb := hC.2.2.2.2.2.1.2.1
    have frb := hC.2.2.2.2.2.1.1
    have cdk := hC.2.2.2.2.2.1.2.2.1
    obtain ⟨w2, w3, w8, wa1, wa4, wb9⟩ := hC.2.2.2.2.2.1.2.2.2
    obtain ⟨x11, xph, x17, xsg⟩ := hC.2.2.2.2.2.2.1
    have dps := hC.2.2.2.2.2.2.2.1.1
    have obs := hC.2.2.2.2.2.2.2.1.2
    have jm := hC.2.2.1
    have d1 : DSM S [c] = (nDp (S.o c.2.1 0) : Int) + 0 := rfl
    have d2 : nDp (S.o c.2.1 0) = 0 := by rw [ec2, h302]; rfl
    have d3 : SSM S [c] = (nSg (S.o c.2.1 0) : Int) + 0 := rfl
    have d4 : nSg (S.o c.2.1 0) = 1 := by rw [ec2, h302]; rfl
    have d5 : PDM S [c] = dbt (S.o c.2.1 0) + 0 := rfl
    have d6 : dbt (S.o c.2.1 0) = 0 := by rw [ec2, h302]; rfl
    rw [d1, d2] at dps
    rw [d3, d4] at xsg
    rw [d5, d6] at xph
    have S38 : S.i 38 = S0.i 38 := by
      rw [← r38]
      refine Int32.toInt_inj.mp ?_
      rw [dps]
      show _ + ((0 : Int) + 0) = _
      omega
    have S22 : S.i 22 = S0.i 22 := by
      rw [← r22]
      refine Int32.toInt_inj.mp ?_
      have z := obs.2.2.1
      have z' : cfl S [] (if S.o c.2.1 0 = 218 then (S.o c.2.1 13).toInt else (S.i 22).toInt) = (W.i 22).toInt := z
      rw [if_neg (by rw [ec2, h302]; decide)] at z'
      exact z'
    have g0' : nGo (S.o c.2.1 0) = 0 := by rw [ec2, h302]; rfl
    have g1' : nWl (S.o c.2.1 0) = 0 := by rw [ec2, h302]; rfl
    have tp2 := tp.2.1
    have tp3 := tp.2.2
    rw [g0'] at tp2
    rw [g1'] at tp3
    rw [bi] at z43 z56
    have s43 : s.i 43 = s0.i 43 := Int32.toInt_inj.mp (by omega)
    have s56 : s.i 56 = s0.i 56 := Int32.toInt_inj.mp (by omega)
    -- from s to the last state
    have Vs : ∀ j : Nat, j ≠ 18 → j ≠ 63 → j ≠ 75 → V'.i j = s.i j := fun j h1 h2 h3 => (Vi j h1).trans (ni j h2 h3)
    have Va : ∀ j : Nat, j ≠ 66 → V'.a j = s.a j := fun j hj => by rw [Vx.1]; exact na j hj
    have Vb : V'.b = s.b := Vx.2.trans nbb
    have Ui : ∀ j : Nat, j ≠ 19 → j ≠ 38 → V1.i j = q.i j := fun j h1 h2 => by
      rw [eV]
      exact (if_neg h1).trans (if_neg h2)
    have U38 : V1.i 38 = s0.i 38 := by
      rw [eV]
      exact s50
    have U19 : V1.i 19 = q.i 19 - 1 := by rw [eV]; rfl
    have Ua : ∀ j : Nat, j ≠ 65 → V1.a j = q.a j := fun j hj => by
      rw [eV, setA_nk hj]
      rfl
    have U65 : V1.a 65 t = 2 := by rw [eV]; exact setA_at
    have U65j : ∀ j : Nat, j ≠ t → V1.a 65 j = q.a 65 j := fun j hj => by
      rw [eV, setA_ne hj]
      rfl
    have Ub : V1.b = q.b := by rw [eV]; rfl
    have q17 : (q.i 17).toInt = (V'.i 17).toInt + 1 := by rw [a4, t17_up (N := N) evV]
    have qjl := qj_eq a2
    obtain ⟨c2, c3, c8, -, c24, c29, c33, -, -, c43, -, -, -, -, c56, c59, c63, -⟩ := id qjl
    have J : ∀ j : Nat, (j = 2 ∨ j = 3 ∨ j = 8 ∨ j = 24 ∨ j = 29 ∨ j = 33 ∨ j = 43 ∨ j = 56 ∨ j = 59 ∨ j = 20) → V1.i j = s.i j := fun j hj => by
      rw [Ui j (by omega) (by omega), ← Vs j (by omega) (by omega) (by omega)]
      rcases hj with z | z | z | z | z | z | z | z | z | z <;> rw [z]
      · exact c2
      · exact c3
      · exact c8
      · exact c24
      · exact c29
      · exact c33
      · exact c43
      · exact c56
      · exact c59
      · exact a6
    have AA : ∀ j : Nat, (j = 1 ∨ j = 4 ∨ j = 25 ∨ j = 27 ∨ j = 28 ∨ j = 30 ∨ j = 34 ∨ j = 37 ∨ j = 40 ∨ j = 41 ∨ j = 44 ∨ j = 46 ∨ j = 47 ∨ j = 48 ∨ j = 49 ∨ j = 50 ∨ j = 51 ∨ j = 57 ∨ j = 58 ∨ j = 60 ∨ j = 61 ∨ j = 62) → V1.a j = s.a j := fun j hj => by
      rw [Ua j (by omega), qj_a a2 j hj, Va j (by omega)]
    have A22 : V1.a 22 = s.a 22 := by rw [Ua 22 (by decide), a7, Va 22 (by decide)]
    have BB : V1.b 9 = s.b 9 ∧ V1.b 39 = s.b 39 ∧ V1.b 45 = s.b 45 := by
      obtain ⟨y1, y2, y3⟩ := qj_b a2
      rw [Ub, y1, y2, y3, Vb]
      exact ⟨rfl, rfl, rfl⟩
    have b2s : ∀ j : Nat, j ≠ 65 → j ≠ 71 → b.a j = s0.a j := ba
    have evY : ENV d Y (RS.setI q 38 (S0.i 50)) := by
      have nm : 2 ≤ (S0.i 50).toInt ∧ (S0.i 50).toInt ≤ (q.i 38).toInt := by
        have z1 := tbb.1
        rw [bi] at z1
        have z2 : q.i 38 = s.i 38 := by
          rw [(qj_eq a2).2.2.2.2.2.2.2.1, Vs 38 (by decide) (by decide) (by decide)]
        rw [s50, z2]
        exact ⟨hv0.2.1.2.1.1, z1⟩
      have ev1 := evA.less (w := S0.i 50) nm
      refine ev1.gx (fun j _ h36 _ h53 _ _ h56 => ?_) ⟨by rw [Yx.2.2.2.1]; rfl, by rw [Yx.2.2.2.1]; rfl, by rw [Yx.2.2.2.1]; rfl⟩ Yx.2.2.2.2.1 Yx.2.2.2.2.2.1 ?_ ?_ ?_
      · by_cases z : j = 50
        · rw [z, Y50, ci_at]
        · rw [Yi j h36 z h53 h56, ci_ne _ _ _ z]
      · have w := evA.ri
        refine w.pop (n := m) A53i Yx.1 Yx.2.1 Yx.2.2.1 (by show (Y.i 53).toInt = _; rw [Y53]; exact hpv) Yx.2.2.2.2.2.2 ?_ ?_
        · have w8 := w.2.2.2.2.2.2
          have tn : (cnI A.2).toNat = m + 1 := by
            have : cnI A.2 = (A.2.i 53).toInt := rfl
            omega
          rw [tn] at w8
          have z : sgI Y = sgI A.2 := by
            unfold sgI
            rw [Yi 34 (by decide) (by decide) (by decide) (by decide)]
          have s0' : 0 ≤ sgn A.2 (rowA A.2 m) := by
            unfold sgn
            by_cases k1 : A.2.o (rowA A.2 m) 0 = 302
            · rw [if_pos k1]; decide
            · rw [if_neg k1]
              by_cases k2 : A.2.o (rowA A.2 m) 0 = 301 ∨ A.2.o (rowA A.2 m) 0 = 212 ∨ A.2.o (rowA A.2 m) 0 = 218 ∨ A.2.o (rowA A.2 m) 0 = 213 ∨ A.2.o (rowA A.2 m) 0 = 215 ∨ A.2.o (rowA A.2 m) 0 = 216
              · rw [if_pos k2]; decide
              · rw [if_neg k2]; exact Int.le_refl _
          omega
        · unfold eI plI
          rw [Yi 43 (by decide) (by decide) (by decide) (by decide), Yi 44 (by decide) (by decide) (by decide) (by decide)]
          exact Int.le_refl _
      · have z := ev1.sj
        have c54 : (CS.setI A.2 50 (S0.i 50)).i 54 = A.2.i 54 ∧ (CS.setI A.2 50 (S0.i 50)).i 55 = A.2.i 55 ∧ (CS.setI A.2 50 (S0.i 50)).i 38 = A.2.i 38 := ⟨rfl, rfl, rfl⟩
        unfold SJB at *
        rw [c54.1, c54.2.1, c54.2.2] at z
        rw [Yi 54 (by decide) (by decide) (by decide) (by decide), Yi 55 (by decide) (by decide) (by decide) (by decide), Yi 38 (by decide) (by decide) (by decide) (by decide)]
        exact z
      · rw [Yi 21 (by decide) (by decide) (by decide) (by decide)]
        exact ev1.t21
    have sg2 : sgn A.2 (rowA A.2 m) = 2 := by
      have ra : rowA A.2 m = a := by
        unfold rowA
        have z : A.2.r 51 m = some a := by
          rw [jr, Sx.1, cb.1 m (by omega)]
          exact rm
        rw [z]
        rfl
      rw [ra]
      unfold sgn
      rw [Ao, if_pos h302]
    have evF := pop_sg (n := m) evA (X := Y) (V := RS.setI q 38 (S0.i 50)) Yx.1 Yx.2.1 Yx.2.2.1 A53i (by rw [Y53]; exact hpv) (by rw [sg2]; decide) evY rfl
    have evU : ENV d (CS.setI Y 34 (A.2.i 34 - 1)) V1 := by
      rw [eV]
      exact setA_env (Or.inr ⟨by decide, by decide⟩) evF
    have Ri : ∀ j : Nat, j ≠ 34 → (CS.setI Y 34 (A.2.i 34 - 1)).i j = Y.i j := fun j hj => ci_ne _ _ _ hj
    have s19 : (q.i 19 - 1).toInt = (q.i 19).toInt - 1 := sub19 evA
    have v19 : (q.i 19).toInt = (s.i 19).toInt := by rw [a10, Vs 19 (by decide) (by decide) (by decide)]
    have qeq := qe_eq (kre_f_X12_next N V' q hq)
    have peA := pe_eq (ke_X9_advance N S' A eA)
    have abd : ABD x0 t U S0 s0 (CS.setI Y 34 (A.2.i 34 - 1)) V1 := by
      have h44 : (S.i 44).toInt + 1 ≤ (A.2.i 44).toInt := by
        have z1 := hv.1.2.2.2.1.1
        have z2 := evA.1.2.2.2.1.1
        have z3 := Vs 11 (by decide) (by decide) (by decide)
        rw [z1, z2, ← z3]
        exact a5
      have y34 : ∀ j : Nat, j ≠ 34 → j ≠ 36 → j ≠ 50 → j ≠ 53 → j ≠ 56 → (CS.setI Y 34 (A.2.i 34 - 1)).i j = A.2.i j := fun j h0 h1 h2 h3 h4 => (Ri j h0).trans (Yi j h1 h2 h3 h4)
      refine arm_cod (c := c) (S := S) (s := s) hr' s50 (by have := (i11_hi hv0).2; omega) (by rw [vw_v, ec2]; exact h302) (jx.w (by rw [ec2, h302]; decide)) tbb.1 ?_ ⟨?_, ?_, ?_, ?_⟩ ?_ ?_ (fun k hk => ?_) (fun k hk => ?_) (fun k hk => ?_) (fun z => ?_)
      · rw [y34 44 (by decide) (by decide) (by decide) (by decide) (by decide)]
        exact h44
      · rw [y34 20 (by decide) (by decide) (by decide) (by decide) (by decide), peA.1, Si 20 (by decide)]
      · rw [y34 21 (by decide) (by decide) (by decide) (by decide) (by decide), j21, Si 21 (by decide)]
      · rw [y34 22 (by decide) (by decide) (by decide) (by decide) (by decide), peA.2.2.2.2.2.2.1, Si 22 (by decide)]
      · rw [y34 23 (by decide) (by decide) (by decide) (by decide) (by decide), peA.2.2.2.2.1, Si 23 (by decide)]
      · rw [y34 38 (by decide) (by decide) (by decide) (by decide) (by decide), j38, Si 38 (by decide)]
        exact S38
      · rw [Ri 50 (by decide)]
        exact Y50
      · show Y.a k = S.a k
        rw [Yx.2.2.2.1, ← Sx.2.2.2.1]
        rcases hk with z | z | z | z | z | z <;> rw [z]
        · exact peA.2.1
        · exact peA.2.2.1
        · exact peA.2.2.2.1
        · exact peA.2.2.2.2.2.2.2
        · exact j48
        · exact j49
      · obtain ⟨⟨e20, e24, e29, e33, e42, e52⟩, -⟩ := qeq
        rw [Ui k (by omega) (by omega), ← Vs k (by omega) (by omega) (by omega)]
        rcases hk with z | z | z | z | z | z <;> rw [z]
        · exact e20
        · exact e24
        · exact e29
        · exact e33
        · exact e42
        · exact e52
      · obtain ⟨-, e21, e22, e23, e25, e26, e27, e28, e30, e31, e32, e34, e35, e36, e37⟩ := qeq
        rw [Ua k (by omega), ← Va k (by omega)]
        rcases hk with z | z | z | z | z | z | z | z | z | z | z | z | z | z <;> rw [z]
        · exact e21
        · exact e22
        · exact e23
        · exact e25
        · exact e26
        · exact e27
        · exact e28
        · exact e30
        · exact e31
        · exact e32
        · exact e34
        · exact e35
        · exact e36
        · exact e37
      · have y0 := late z
        have y1 := (kln_f_X12_next N V' q hq).1 y0
        have y2 : V1.i 18 = V'.i 18 := (Ui 18 (by decide) (by decide)).trans y1
        have y3 := (kln_f_X12_parse_10 N m1 V1 U g1).1 (by rw [y2]; exact y0)
        rw [y3, y2]
        exact y0
    refine ⟨?_, m1, V1, g1, ?_, by rw [eR]; exact abd⟩
    · rw [eP, ci_at, hpv]
      exact Int.le_refl _
    rw [eR]
    clear abd
    have k110 := hv0.1.2.2.2.1.1
    have k11s := hv.1.2.2.2.1.1
    have k11u := evU.1.2.2.2.1.1
    have k11u' : Y.i 44 = V1.i 11 := by
      rw [← k11u]
      exact (Ri 44 (by decide)).symm
    have Y54 : Y.i 54 = S.i 54 := by rw [Yi 54 (by decide) (by decide) (by decide) (by decide), j54, Si 54 (by decide)]
    have Y55 : Y.i 55 = S.i 55 := by rw [Yi 55 (by decide) (by decide) (by decide) (by decide), j55, Si 55 (by decide)]
    have Y21 : Y.i 21 = S.i 21 := by rw [Yi 21 (by decide) (by decide) (by decide) (by decide), j21, Si 21 (by decide)]
    have Ya52 : Y.a 52 = S.a 52 := by rw [Yx.2.2.2.1, j52, Sx.2.2.2.1]
    have Ya18 : Y.a 18 = S.a 18 := by rw [Yx.2.2.2.1, a9.1, Sx.2.2.2.1]
    have Yr : Y.r = S.r := by rw [Yx.1, jr, Sx.1]
    have Yo : Y.o = S.o := by rw [Yx.2.1, Ao]
    have Yol : Y.ol = S.ol := by rw [Yx.2.2.1, jol, Sx.2.2.1]
    have u11 : (V1.i 11).toInt = (q.i 11).toInt := by rw [Ui 11 (by decide) (by decide)]
    have v11 : (V'.i 11).toInt = (s.i 11).toInt := by rw [Vs 11 (by decide) (by decide) (by decide)]
    have u17 : (V1.i 17).toInt = (q.i 17).toInt := by rw [Ui 17 (by decide) (by decide)]
    have v17 : (V'.i 17).toInt = (s.i 17).toInt := by rw [Vs 17 (by decide) (by decide) (by decide)]
    have phU : phI V1 = phI s + 3 := by
      unfold phI
      rw [J 20 (by decide), u17, q17, v17]
      omega
    have phb : phI b = phI s0 := by
      unfold phI
      rw [bi]
    obtain ⟨cb1, cb2, cb3, cb4, cb5, cb6, cb7, cb8, cb9, cb10, cb11⟩ := cb
    have cbr := cb10
    unfold RTE at cbr
    refine ⟨evU, ?_, ⟨?_, U65, ?_, ?_, ?_⟩, fun j hj => ?_, ⟨⟨⟨?_, ?_, ?_, U38, ?_, ?_, ?_, ?_, ?_, ?_⟩, fun j hj => ?_, fun j hj => ?_, fun j hj => ?_, ⟨?_, fun j h1 h2 => ?_⟩, fun j hj => ?_, ?_, fun j hj => ?_, ?_, fun j hj => ?_, ?_, fun j hj => ?_⟩, ?_, fun j hj => ?_⟩, ⟨⟨?_, ?_, ?_, ?_, ?_, ?_⟩, fun j hj => ?_, fun j y hj hy => ?_, fun j hj => ?_, ?_, ?_, fun j hj => ?_, fun j h1 h2 => ?_, ?_, ?_, ?_⟩, ?_, ?_, ?_, ?_⟩
    · -- the frame on top
      show (V1.i 63).toInt = _
      rw [Ui 63 (by decide) (by decide), c63, Vi 63 (by decide)]
      exact tV
    · rw [Ua 64 (by decide), ((FRB.of a2 : FRB (t + 1) V' q) t (by omega)).1, Vx.1, fT.1]
      exact f64
    · have z := (frb t (by omega)).2.2.1
      rw [Ua 66 (by decide), ((FRB.of a2 : FRB (t + 1) V' q) t (by omega)).2.2.1, Vx.1, fT.2.2.1, z, ba 66 (by decide) (by decide)]
    · have z := (frb t (by omega)).2.2.2.1
      rw [Ua 67 (by decide), ((FRB.of a2 : FRB (t + 1) V' q) t (by omega)).2.2.2.1, Vx.1, fT.2.2.2.1, z, ba 67 (by decide) (by decide)]
    · have z := (frb t (by omega)).2.2.2.2.1
      rw [Ua 68 (by decide), ((FRB.of a2 : FRB (t + 1) V' q) t (by omega)).2.2.2.2.1, Vx.1, fT.2.2.2.2.1, z, ba 68 (by decide) (by decide)]
    · -- frames below
      obtain ⟨p0, p1, p2, p3, p4', p5, p6, p7, p8, p9, pb⟩ := (FRB.of a2 : FRB (t + 1) V' q) j (by omega)
      obtain ⟨y0, y1, y2, y3, y4, y5, y6, y7, y8, y9, yb⟩ := n3 j (by omega)
      obtain ⟨z0, z1, z2, z3, z4, z5, z6, z7, z8, z9, zb⟩ := frb j (by omega)
      have ej : j ≠ t := by omega
      refine ⟨?_, ?_, ?_, ?_, ?_, ?_, ?_, ?_, ?_, ?_, ?_⟩
      · rw [Ua 64 (by decide), p0, Vx.1, y0, z0, baj 64 j ej]
      · rw [U65j j ej, p1, Vx.1, y1, z1, baj 65 j ej]
      · rw [Ua 66 (by decide), p2, Vx.1, y2, z2, baj 66 j ej]
      · rw [Ua 67 (by decide), p3, Vx.1, y3, z3, baj 67 j ej]
      · rw [Ua 68 (by decide), p4', Vx.1, y4, z4, baj 68 j ej]
      · rw [Ua 69 (by decide), p5, Vx.1, y5, z5, baj 69 j ej]
      · rw [Ua 70 (by decide), p6, Vx.1, y6, z6, baj 70 j ej]
      · rw [Ua 71 (by decide), p7, Vx.1, y7, z7, baj 71 j ej]
      · rw [Ua 72 (by decide), p8, Vx.1, y8, z8, baj 72 j ej]
      · rw [Ua 73 (by decide), p9, Vx.1, y9, z9, baj 73 j ej]
      · rw [Ub, pb, Vx.2, yb, zb, bb]
    · rw [J 2 (by decide), w2, bi]
    · rw [J 3 (by decide), w3, bi]
    · rw [J 8 (by decide), w8, bi]
    · rw [J 43 (by decide), s43]
    · rw [J 2 (by decide), w2, bi]
    · rw [J 56 (by decide), s56]
    · rw [AA 1 (by decide), wa1, ba 1 (by decide) (by decide)]
    · rw [AA 4 (by decide), wa4, ba 4 (by decide) (by decide)]
    · rw [BB.1, wb9, bb]
    · obtain ⟨y1, y2, y3⟩ := tbb.2.2.2.1 j (by rw [bi]; exact hj)
      rw [BB.2.1, AA 40 (by decide), AA 41 (by decide), y1, y2, y3, bb, ba 40 (by decide) (by decide), ba 41 (by decide) (by decide)]
      exact ⟨rfl, rfl, rfl⟩
    · obtain ⟨y1, y2, y3, y4, y5, y6, y7, y8⟩ := tbb.2.2.2.2.1 j (by rw [bi]; exact hj)
      rw [BB.2.2, AA 44 (by decide), AA 46 (by decide), AA 47 (by decide), AA 50 (by decide), AA 51 (by decide), AA 48 (by decide), AA 49 (by decide), y1, y2, y3, y4, y5, y6, y7, y8, bb, ba 44 (by decide) (by decide), ba 46 (by decide) (by decide), ba 47 (by decide) (by decide), ba 50 (by decide) (by decide), ba 51 (by decide) (by decide), ba 48 (by decide) (by decide), ba 49 (by decide) (by decide)]
      exact ⟨rfl, rfl, rfl, rfl, rfl, rfl, rfl, rfl⟩
    · obtain ⟨y1, y2⟩ := tbb.2.2.2.2.2.1 j (by rw [bi]; exact hj)
      rw [AA 57 (by decide), AA 58 (by decide), y1, y2, ba 57 (by decide) (by decide), ba 58 (by decide) (by decide)]
      exact ⟨rfl, rfl⟩
    · have z := tbb.2.2.2.2.2.2.1
      rw [bi] at z
      rw [J 59 (by decide)]
      exact z
    · rw [J 59 (by decide)] at h2
      rw [AA 62 (by decide)]
      rcases jm.2.2.2.1 j (by rw [bi]; exact h1) h2 with z | ⟨y, hy, ty, -⟩
      · exact z
      · exfalso
        rw [List.mem_singleton.mp hy, ec2, h302] at ty
        unfold isTy at ty
        exact absurd ty (by decide)
    · obtain ⟨y1, y2, y3⟩ := tbb.2.2.2.2.2.2.2.1 j (by rw [bi]; exact hj)
      rw [AA 60 (by decide), AA 61 (by decide), AA 62 (by decide), y1, y2, y3, ba 60 (by decide) (by decide), ba 61 (by decide) (by decide), ba 62 (by decide) (by decide)]
      exact ⟨rfl, rfl, rfl⟩
    · have z := tbb.2.2.2.2.2.2.2.2.1
      rw [bi] at z
      rw [J 29 (by decide)]
      exact z
    · rw [AA 30 (by decide), tbb.2.2.2.2.2.2.2.2.2.1 j (by rw [bi]; exact hj), ba 30 (by decide) (by decide)]
    · have z := tbb.2.2.2.2.2.2.2.2.2.2.1
      rw [bi] at z
      rw [J 33 (by decide)]
      exact z
    · obtain ⟨y1, y2⟩ := tbb.2.2.2.2.2.2.2.2.2.2.2.1 j (by rw [bi]; exact hj)
      rw [AA 34 (by decide), AA 37 (by decide), y1, y2, ba 34 (by decide) (by decide), ba 37 (by decide) (by decide)]
      exact ⟨rfl, rfl⟩
    · have z := tbb.2.2.2.2.2.2.2.2.2.2.2.2.1
      rw [bi] at z
      rw [J 24 (by decide)]
      exact z
    · obtain ⟨y1, y2, y3⟩ := tbb.2.2.2.2.2.2.2.2.2.2.2.2.2 j (by rw [bi]; exact hj)
      rw [AA 25 (by decide), AA 27 (by decide), AA 28 (by decide), y1, y2, y3, ba 25 (by decide) (by decide), ba 27 (by decide) (by decide), ba 28 (by decide) (by decide)]
      exact ⟨rfl, rfl, rfl⟩
    · have z := cdk.1
      rw [bi] at z
      rw [J 20 (by decide)]
      exact z
    · rw [A22, cdk.2 j (by rw [bi]; exact hj), ba 22 (by decide) (by decide)]
    · -- the class
      rw [Ri 22 (by decide), Yi 22 (by decide) (by decide) (by decide) (by decide), a8, Si 22 (by decide)]
      exact S22
    · rw [Ri 36 (by decide)]
      exact Y36
    · rw [Ri 38 (by decide), Yi 38 (by decide) (by decide) (by decide) (by decide), j38, Si 38 (by decide)]
      exact S38
    · rw [Ri 50 (by decide)]
      exact Y50
    · rw [Ri 53 (by decide), Y53]
      exact Int32.toInt_inj.mp (by omega)
    · rw [Ri 56 (by decide)]
      exact Y56
    · show Y.r 51 j = _
      rw [Yr, cb1 j (by omega), rrow j (by omega)]
    · show Y.o y = _ ∧ Y.ol y = _
      have z1 := rro j y (by omega) hy
      have z2 := cb2 j y (by omega) (by rw [rrow j (by omega)]; exact hy)
      rw [Yo, Yol, z2.1, z2.2]
      exact z1
    · show Y.a 18 j = _
      rw [Ya18, cb5 j (by rw [r22]; exact hj), ra18]
    · rw [Ri 54 (by decide), Y54]
      omega
    · rw [Ri 55 (by decide), Y55, ← r55]
      exact cb7
    · show Y.a 52 j = _
      rw [Ya52, cb8 j (by rw [r55]; exact hj), ra52]
    · rw [Ri 55 (by decide), Y55] at h2
      show Y.a 52 j = 0 ∨ 2 * (S0.i 54).toInt + 1 < (Y.a 52 j).toInt ∧ (Y.a 52 j).toInt ≤ 2 * ((CS.setI Y 34 (A.2.i 34 - 1)).i 54).toInt + 1
      rw [Ri 54 (by decide), Ya52, Y54]
      rcases cb9 j (by rw [r55]; exact h1) h2 with z | z
      · exact Or.inl z
      · refine Or.inr ⟨by omega, jm.2.2.2.2.2.2.2.1 j h2 ⟨c, List.mem_cons_self, ?_⟩⟩
        rw [ec2, eo, ro14]
        exact h1
    · rw [Ri 21 (by decide), Ri 44 (by decide), Y21, k11u', u11, k110]
      rw [k11s] at cbr
      rw [k110] at r44
      rw [r21] at cbr
      omega
    · rw [Ri 54 (by decide), Ri 44 (by decide), Y54, k11u', u11, k110]
      rw [k11s] at cbr
      rw [k110] at r44
      omega
    · rw [Ri 55 (by decide), Ri 44 (by decide), Y55, k11u', u11, k110]
      rw [k11s] at cbr
      rw [k110] at r44
      rw [r55] at cbr
      omega
    · rw [u11]
      rw [bi] at x11
      omega
    · rw [phU]
      rw [phb] at xph
      omega
    · rw [u17, q17, v17]
      rw [bi] at x17
      omega
    · refine Int32.toInt_inj.mp ?_
      rw [U19, s19, v19, xsg, bi]
      show _ + (((1 : Nat) : Int) + 0) - 1 = _
      omega
  · -- no sign
    left
    have k10 : ¬ V0.i 10 = 125 := fun z => c125 (k125.mpr (by rw [← n7]; exact z))
    have u15 : ¬ U.i 15 = 0 := by
      refine u_flt g1 ?_
      by_cases z : V0.i 75 = 0
      · rw [if_pos z] at hV
        exact am_flt (U := U) n1.1.2.1 k10 hV
      · rw [if_neg z, if_neg k10] at hV
        exact am_flt (U := U) n1.1.2.1 k10 hV
    refine ⟨?_, u15⟩
    rcases k with ⟨z, -⟩ | ⟨⟨z, -⟩, -⟩ | ⟨⟨z, -⟩, -⟩ | ⟨-, -, k⟩ | ⟨⟨-, z⟩, -⟩ | ⟨-, ⟨q1, q2⟩, k⟩
    · exact absurd z no
    · exact absurd (h302.symm.trans z) (by decide)
    · exact absurd (h302.symm.trans z) (by decide)
    · unfold f_X7_endList at k
      obtain ⟨-, k⟩ := hf_ite k
      rw [if_neg (by rw [h302]; decide), if_pos h302] at k
      by_cases z : S.i 36 = 0
      · rw [if_pos z] at k
        exact e72_flt c125 k
      · rw [if_neg z] at k
        obtain ⟨p49, e49, k⟩ := hf_bind k
        refine e72_flt ?_ k
        unfold f_X7_notReached at e49
        by_cases y : 0 ≤ S.i 37
        · rw [if_pos y] at e49
          rw [← Option.some.inj e49]
          exact c125
        · rw [if_neg y] at e49
          rw [← Option.some.inj e49]
          show ¬ (CS.setI S 37 (S.i 44)).i 43 = 125
          rw [ci_ne _ _ _ (by decide)]
          exact c125
    · exact absurd (h302.symm.trans z) (by decide)
    · have tk' : S.i 43 = 219 ∨ S.i 43 = 220 := by
        rcases tk with z | z | z | z
        · exact absurd z q1
        · exact absurd z q2
        · exact Or.inl z
        · exact Or.inr z
      exact y_stF (x1 := 0) (Or.inl (Or.inr tk')) k
