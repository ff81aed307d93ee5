/-! both readers: the code of a while -/
theorem JRW.whi {N : Nat} {A : JBA} {d1 d2 d3 dz : Int32} {U : RS} {B C0 C1 C2 C3 R Y : CS} {b s y0 z1 z2 z3 z5 u q0 : RS} {V : List RVW} {r : RVW} {C4 C6 x9 am : Unit × CS} {z4 z6 : Int32 × RS} {w w' : Int32 × CS} (j1 : JRG A U B b V s [] (JQG U 1264 0 1 (pcC C0) (pcR y0) JQZ) 1 1 C0 y0) (ev2 : ENV d1 C0 y0) (et : f_X0_newTarget N C0 = some w) (et' : f_X0_newTarget N w.2 = some w') (c0 : CD1 (-2) (-2) w'.2 x9.2) (t0 : ∀ a b : Int, CT7 a b w'.2 x9.2) (p0 : x9.2.i 20 = C0.i 20) (q0' : ∀ c : Int, CD2 c y0 q0) (r0 : q0.i 20 = y0.i 20) (n0 : NMV y0 q0) (ev3 : ENV d1 x9.2 q0) (ea : f_X0_aim N x9.2 w.1 = some am) (c1 : CD1 (-1) (-1) am.2 C1) (t1 : ∀ a b : Int, CT7 a b am.2 C1) (p1 : C1.i 20 = am.2.i 20) (q1 : ∀ c : Int, CD2 c q0 z1) (r1 : z1.i 20 = q0.i 20) (n1 : NMV q0 z1) {gf : Nat} (xc : CDE gf U C1 z1 C2 z2) (hgf : (gf = 2 ∧ r.1 7 = 0) ∨ (gf = 4 ∧ ¬ r.1 7 = 0)) (ez : ENV d2 C1 z1) (n2 : NMV z1 z2) (e2 : ENV d2 C2 z2) (c3 : CD1 (-1) (-1) C2 C3) (t3 : ∀ a b : Int, CT7 a b C2 C3) (p3 : C3.i 20 = C2.i 20) (q3 : ∀ c : Int, CD2 c z2 z3) (r3 : z3.i 20 = z2.i 20) (n3 : NMV z2 z3) (e3 : ENV d3 C3 z3) (h3 : 1 ≤ phI z3) (e4 : f_X0_add N C3 31 w'.1 = some C4) (hz : f_X12_emit N z3 13 0 = some z4) (q4 : ∀ c : Int, CD2 c z4.2 z5) (r4 : z5.i 20 = z4.2.i 20) (n4 : NMV z4.2 z5) (n44 : C4.2.i 50 = z4.2.i 38) (ez5 : ENV dz Y z5) (hz5 : 1 ≤ phI z5) (e6 : f_X0_add N C4.2 51 0 = some C6) (hz6 : f_X12_emit N z5 1 0 = some z6) (c5 : CD1 0 0 C6.2 R) (t5 : ∀ a b : Int, CT7 a b C6.2 R) (p5 : R.i 20 = C6.2.i 20) (q5 : ∀ c : Int, CD2 c z6.2 u) (r5 : u.i 20 = z6.2.i 20) (n45 : C6.2.i 50 = z6.2.i 38) (n5 : NMV z6.2 u) (hr : r.v = 205) (rx : r.1 9 = w'.1) (rh : r.1 10 = w.1) (rs : r.2.1 67 = z4.1) (rq : r.2.1 66 = z1.i 20) (r36 : R.i 36 = 1) (lf : LPF s u r.2.2.2) (ro2 : r.1 2 = R.i 38) (rn5 : NT5 (r.1 9) ∧ NT5 (r.1 10)) (l11 : (s.i 11).toInt ≤ (z1.i 11).toInt ∧ (s.i 11).toInt ≤ (u.i 11).toInt) (l19 : (s.i 19).toInt ≤ (z1.i 19).toInt ∧ (s.i 19).toInt ≤ (u.i 19).toInt) (pl : ∀ q ∈ V, q.2.2.1 < r.2.2.1) : JRW A U B b (r :: V) R u := by
  have g44 : (C0.i 44).toInt = (y0.i 11).toInt := by rw [ev2.p44.1]
  have g6 := (i11_hi ev2).2
  have g44' : (x9.2.i 44).toInt = (q0.i 11).toInt := by rw [ev3.p44.1]
  have g6' := (i11_hi ev3).2
  have k44 : (C3.i 44).toInt = (z3.i 11).toInt := by rw [e3.p44.1]
  have k6 := (i11_hi e3).2
  have k20 := e3.p20
  have k20' := ez5.p20
  have w44 : w.2.i 44 = C0.i 44 := by
    unfold f_X0_newTarget at et
    cases et
    rfl
  have j2 := (j1.nt et (by omega) (by omega)).nt et' (by rw [w44]; omega) (by omega)
  have w50 : w'.2.i 50 = C0.i 50 := by
    unfold f_X0_newTarget at et et'
    cases et
    cases et'
    rfl
  have j3 := j2.cod (jsp_tok c0 t0 q0' (w50.trans ev2.2.1.1) n0)
  have a20 : am.2.i 20 = x9.2.i 20 := by
    unfold f_X0_aim at ea
    cases ea
    rfl
  have a50 : am.2.i 50 = x9.2.i 50 := by
    unfold f_X0_aim at ea
    cases ea
    rfl
  have j4 := JRG.aih (W1 := [tv w'.1]) (W2 := []) (K' := fun FC SF nm X ω j Z => (cTg SF w.1).toInt = ((pcC x9.2 : Nat) : Int) ∧ JQG U 1264 0 1 (pcC C0) (pcR y0) JQZ FC SF nm X ω j Z) j3 ea (by omega) (by omega) (fun FC SF nm X ω j Z h k => ⟨h, k⟩)
  have j5 := j4.cod (jsp_tok c1 t1 q1 (a50.trans ev3.2.1.1) n1)
  have pc0 : pcC C1 = pcC C0 := by unfold pcC; rw [p1, a20, p0]
  have pc1 : pcC C1 = pcC x9.2 := by unfold pcC; rw [p1, a20]
  have pr1 : pcR z1 = pcR y0 := by unfold pcR; rw [r1, r0]
  have z20 := ez.p20
  have j6 : JRG A U B b V s [hv w.1, tv w'.1] (JQA U 1264 0 (pcC C1) (pcR z1) (fun FC SF nm X ω j Z => Z ∧ HE5 FC SF U nm X w.1 (z1.i 20) ω j)) (-2) 0 C1 z1 := j5.imp (by omega) (by omega) (fun FC SF nm X ω j Z _ _ _ _ _ r12 k q => by
    refine ⟨k.2 ?_, pcC C1, pcR z1, by rw [pc1]; exact k.1, (Int.toNat_of_nonneg z20.1).symm, by unfold pcC; omega, q 5⟩
    rw [← pc0, ← pr1]
    exact q 1)
  have j7 := j6.cod (jsp_frm xc ez.2.1.1 n2 (by omega) (by omega) (by omega) (by omega) l19.1)
  have j8 := j7.cod (jsp_tok c3 t3 q3 e2.2.1.1 n3)
  have pc3 : pcC C3 = pcC C2 := by unfold pcC; rw [p3]
  have pr3 : pcR z3 = pcR z2 := by unfold pcR; rw [r3]
  have j9 := j8.ons (K' := JQA U 1264 0 (pcC C4.2) (pcR z4.2) (fun FC SF nm X ω j Z => (gf = 4 ∨ PRT FC SF U nm X w'.1 z4.1 ω j) → Z ∧ HE5 FC SF U nm X w.1 (z1.i 20) ω j)) e4 (by omega) (by omega) hz ⟨k20.1, by omega⟩ (fun FC SF nm X ω j Z pq a1 a2 b1 b2 b3 v1 v2 _ hc hh tyc tl hω k gu prt => k (by
    rw [← pc3, ← pr3]
    have g0 := gu 0
    rw [v1, v2] at g0
    have := pq.1
    refine gi_UJz (pq.hc (hc.up (Nat.le_add_right _ _))) pq.2.1 ⟨a1, b1, _, rfl, ?_, ⟨_, by omega, g0⟩⟩
    rcases prt with prt | ⟨pp, qq, w1, w2, w3⟩
    · exact Or.inl prt
    · rw [b2] at w2
      exact Or.inr ⟨pp, qq, _, ⟨by rw [a2]; exact w1, w2⟩, by omega, w3⟩))
  have c0' : CD1 0 0 C4.2 C4.2 := CD1.rf _
  have j10 := j9.cod (jsp_tok c0' (fun _ _ => CT7.rf _ _ _) q4 n44 n4)
  have pr4 : pcR z5 = pcR z4.2 := by unfold pcR; rw [r4]
  rw [← pr4] at j10
  have h44 : (C4.2.i 44).toInt ≤ 900 := by
    unfold f_X0_add at e4
    cases e4
    show (C3.i 44).toInt ≤ 900
    omega
  have j11 := j10.stp (δ' := 2528) e6 h44 (by omega) hz6 ⟨k20'.1, by omega⟩ (by omega)
  have j12 := j11.cod (jsp_tok c5 t5 q5 n45 n5)
  have pc5 : pcC R = pcC C6.2 := by unfold pcC; rw [p5]
  have pr5 : pcR u = pcR z6.2 := by unfold pcR; rw [r5]
  have jl : jlv r.v = 2528 := by rw [hr]; rfl
  refine j12.ps0 ⟨by omega, fun _ => ⟨by omega, by rw [rh]; exact List.mem_cons_of_mem _ List.mem_cons_self⟩, fun y => absurd (hr.symm.trans y) (by decide), by rw [hr]; decide⟩ (Or.inl (by omega)) lf.1 l11.2 l19.2 pl (fun q => ?_) (by rw [hr]; decide) (by rw [hr]; decide) (by rw [hr]; decide) (by rw [hr]; decide) (fun k q => ?_) ?_ (fun _ => lf.gl ro2 rn5 ⟨fun _ => by rw [rq]; exact z20.1, fun y => absurd (hr.symm.trans y) (by decide)⟩ (by rw [hr]; decide)) r36 (fun FC SF nm X G col YJ ω j Z hω r12 hc hh k jr cur => ?_)
  · rcases q with q | q | q | q <;> rw [hr] at q <;> exact absurd q (by decide)
  · unfold rsite at q
    rw [hr] at q
    rcases q with ⟨q, -⟩ | ⟨q, -⟩ | ⟨-, q⟩ | ⟨q, -⟩
    · rcases q with q | q | q <;> exact absurd q (by decide)
    · exact absurd q (by decide)
    · rw [rs] at q
      exact ⟨_, List.mem_cons_self, sv.site.mpr q⟩
    · exact absurd q (by decide)
  · have e1 : rtgs r = [w'.1] := by
      unfold rtgs
      rw [hr, if_neg (by decide), if_pos (by decide), rx]
    have e2 : ptl [sv z4.1, hv w.1, tv w'.1] = [w'.1] := by
      show rtgs (sv z4.1) ++ (rtgs (hv w.1) ++ (rtgs (tv w'.1) ++ [])) = _
      rw [sv.tgs, hv.tgs, tv.tgs]
      rfl
    rw [e1]
    exact List.Perm.of_eq e2.symm
  · rw [jl, pc5, pr5] at cur
    have prt : gf = 4 ∨ PRT FC SF U nm X w'.1 z4.1 ω j := by
      rcases hgf with ⟨-, z⟩ | ⟨z, -⟩
      · have y := (jr.2.2.1 hr).1 z
        rw [rx, rs] at y
        exact Or.inr y
      · exact Or.inl z
    have e9 : ω + (j.l + 2528) - pcC C6.2 = ω + j.l + 2528 - pcC C6.2 := by omega
    have c2 := cur.2
    rw [e9] at c2
    have z := k c2 prt
    refine ⟨z.1, fun _ => ?_, fun q => absurd (hr.symm.trans q) (by decide), fun q => absurd (hr.symm.trans q) (by decide), fun q => absurd (hr.symm.trans q) (by decide), fun q => absurd (hr.symm.trans q) (by decide)⟩
    rw [rh, rq]
    exact z.2
theorem vws.eqf {S R : CS} {s u : RS} {T : Nat} (tb : ∀ j : Nat, (j : Int) < (s.i 38).toInt → u.a 40 j = s.a 40 j) : ∀ (L : List CEL), (∀ y ∈ L, (S.o y.2.1 3).toInt ≤ (s.i 38).toInt) → (∀ c ∈ L, R.o c.2.1 = S.o c.2.1) → (∀ k t : Nat, 66 ≤ k → k ≤ 73 → t < T → u.a k t = s.a k t) → (∀ c ∈ L, ceT c < T) → vws R u L = vws S s L
  | [], _, _, _, _ => rfl
  | c :: L, o3, h, f, t => by
    have ih := vws.eqf tb L (fun d hd => o3 d (List.mem_cons_of_mem _ hd)) (fun d hd => h d (List.mem_cons_of_mem _ hd)) f (fun d hd => t d (List.mem_cons_of_mem _ hd))
    have e1 : vw R u c = vw S s c := by
      unfold vw
      rw [h c List.mem_cons_self]
      have e2 : (fun k : Nat => if 66 ≤ k ∧ k ≤ 73 then u.a k (ceT c) else if 1000 ≤ k ∧ (k : Int) - 1000 < (S.o c.2.1 3).toInt then u.a 40 (k - 1000) else 0) = (fun k : Nat => if 66 ≤ k ∧ k ≤ 73 then s.a k (ceT c) else if 1000 ≤ k ∧ (k : Int) - 1000 < (S.o c.2.1 3).toInt then s.a 40 (k - 1000) else 0) := by
        funext k
        by_cases q : 66 ≤ k ∧ k ≤ 73
        · rw [if_pos q, if_pos q]
          exact f k (ceT c) q.1 q.2 (t c List.mem_cons_self)
        · rw [if_neg q, if_neg q]
          exact vw_40 tb (o3 c List.mem_cons_self) k
      rw [e2]
    show vw R u c :: vws R u L = vw S s c :: vws S s L
    rw [e1, ih]
theorem FRB.fld {s u : RS} {T : Nat} (f : FRB T s u) (k t : Nat) (h1 : 66 ≤ k) (h2 : k ≤ 73) (ht : t < T) : u.a k t = s.a k t := by
  obtain ⟨f0, f1, f2, f3, f4, f5, f6, f7, f8, f9, -⟩ := f t ht
  have : k = 66 ∨ k = 67 ∨ k = 68 ∨ k = 69 ∨ k = 70 ∨ k = 71 ∨ k = 72 ∨ k = 73 := by omega
  rcases this with z | z | z | z | z | z | z | z <;> rw [z] <;> assumption
