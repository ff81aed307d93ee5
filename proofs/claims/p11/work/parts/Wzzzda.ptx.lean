/-! both readers: chains are aimed, exactly; a row closes with its code -/
theorem pt_l {N : Nat} {P : Nat → Prop} {s : RS} (dec : ∀ k : Nat, P k → (s.a 22 k).toInt < 0 ∨ ∃ j : Nat, (s.a 22 k).toInt = (j : Int) ∧ j < k ∧ P j) : ∀ (n : Nat) (σ V : RS) (x2 x3 : Int32), (∀ j : Nat, P j → (j : Int) ≤ x3.toInt → σ.a 22 j = s.a 22 j) → (x3.toInt < 0 ∨ ∃ j : Nat, x3.toInt = (j : Int) ∧ P j) → f_X12_patch_2 N n σ x2 x3 = some V → ∃ l : List Nat, lks s x3 l ∧ (∀ j ∈ l, P j ∧ (j : Int) ≤ x3.toInt) ∧ (V.i = σ.i ∧ V.l = σ.l ∧ V.b = σ.b ∧ ∀ k : Nat, k ≠ 22 → V.a k = σ.a k) ∧ (∀ j ∈ l, V.a 22 j = x2) ∧ ∀ j : Nat, ¬ j ∈ l → V.a 22 j = σ.a 22 j := by
  intro n
  induction n with
  | zero =>
    intro σ V x2 x3 _ _ e
    cases e
  | succ n ih =>
    intro σ V x2 x3 ag hx e
    have e' : b_X12_patch_2 N (f_X12_patch_2 N n) σ x2 x3 = some V := e
    unfold b_X12_patch_2 at e'
    rcases hx with hx | ⟨j0, hj, pj⟩
    · rw [if_pos (by rw [Int32.lt_iff_toInt_lt, z_t0]; exact hx)] at e'
      cases e'
      exact ⟨[], hx, fun j h => absurd h List.not_mem_nil, ⟨rfl, rfl, rfl, fun _ _ => rfl⟩, fun j h => absurd h List.not_mem_nil, fun _ _ => rfl⟩
    · rw [if_neg (fun z => by rw [Int32.lt_iff_toInt_lt, z_t0] at z; omega)] at e'
      obtain ⟨-, e'⟩ := hf_ite e'
      have en : x3.toNatClampNeg = j0 := by
        show x3.toInt.toNat = j0
        omega
      rw [en] at e'
      have e2 : σ.a 22 j0 = s.a 22 j0 := ag j0 pj (by omega)
      rw [e2] at e'
      obtain ⟨τ, hτ⟩ : ∃ y, y = RS.setA σ 22 j0 x2 := ⟨_, rfl⟩
      have ti : τ.i = σ.i := by rw [hτ]; rfl
      have tl : τ.l = σ.l := by rw [hτ]; rfl
      have tb : τ.b = σ.b := by rw [hτ]; rfl
      have ta : ∀ k : Nat, k ≠ 22 → τ.a k = σ.a k := by rw [hτ]; exact fun k hk => setA_nk hk
      have t0 : τ.a 22 j0 = x2 := by rw [hτ]; exact setA_at
      have tn : ∀ j : Nat, ¬ j = j0 → τ.a 22 j = σ.a 22 j := by rw [hτ]; exact fun j hj => setA_ne hj
      rw [← hτ] at e'
      clear hτ
      have dl : (s.a 22 j0).toInt < (j0 : Int) := by
        rcases dec j0 pj with z | ⟨j, z1, z2, -⟩ <;> omega
      obtain ⟨l, l1, l2, ⟨l3, l4, l5, l6⟩, l7, l8⟩ := ih τ V x2 (s.a 22 j0) (fun j pj' hj' => by rw [tn j (by omega)]; exact ag j pj' (by omega)) (by
        rcases dec j0 pj with z | ⟨j, z1, -, z3⟩
        · exact Or.inl z
        · exact Or.inr ⟨j, z1, z3⟩) e'
      have nl : ¬ j0 ∈ l := fun z => by
        have := (l2 j0 z).2
        omega
      refine ⟨j0 :: l, ⟨hj, l1⟩, fun j h => ?_, ⟨l3.trans ti, l4.trans tl, l5.trans tb, fun k hk => (l6 k hk).trans (ta k hk)⟩, fun j h => ?_, fun j h => ?_⟩
      · rcases List.mem_cons.mp h with z | z
        · rw [z]
          exact ⟨pj, by omega⟩
        · have := l2 j z
          exact ⟨this.1, by omega⟩
      · rcases List.mem_cons.mp h with z | z
        · rw [z, l8 j0 nl]
          exact t0
        · exact l7 j z
      · rw [l8 j (fun z => h (List.mem_cons_of_mem _ z))]
        exact tn j (fun z => h (by rw [z]; exact List.mem_cons_self))
/-- a chain of a colour is aimed -/
theorem pt_ex {N : Nat} {S : CS} {L : List CEL} {col : Nat → Option (Nat × Bool)} {b20 : Int} {κ : Nat × Bool} {s V : RS} {x1 x2 : Int32} (hc : COL S s L col b20) (hx : x1.toInt < 0 ∨ ∃ j : Nat, x1.toInt = (j : Int) ∧ col j = some κ) (e : f_X12_patch N s x1 x2 = some V) : ∃ l : List Nat, lks s x1 l ∧ (∀ j ∈ l, col j = some κ) ∧ (V.i = s.i ∧ V.l = s.l ∧ V.b = s.b ∧ ∀ k : Nat, k ≠ 22 → V.a k = s.a k) ∧ (∀ j ∈ l, V.a 22 j = x2) ∧ ∀ j : Nat, ¬ j ∈ l → V.a 22 j = s.a 22 j := by
  obtain ⟨l, l1, l2, l3, l4, l5⟩ := pt_l (P := fun k => col k = some κ) (fun k hk => hc.2.1 k κ hk) N s V x2 x1 (fun _ _ _ => rfl) hx e
  exact ⟨l, l1, fun j hj => (l2 j hj).1, l3, l4, l5⟩
theorem COR.gis {d : Int32} {B : CS} {b : RS} {t0 : Nat} {L : List CEL} {x : Int} {S : CS} {s : RS} {c1 : CEL} (hC : COR d B b t0 (c1 :: L) x S s) : ∀ q ∈ vws S s L, isGo q.v → q.2.2.2 < ceG c1 := fun q hq gq => by
  obtain ⟨y, hy, e⟩ := List.mem_map.mp hq
  rw [← e] at gq ⊢
  have o := ((STK.inj (c1 :: L) _ _ _ hC.2.1).2 y (List.mem_cons_of_mem _ hy) c1 List.mem_cons_self (STK.ord L c1 _ _ _ hC.2.1 y hy)).2.1
  have n1 := nGo1 (show isGo (S.o y.2.1 0) from gq)
  show ceG y < ceG c1
  omega
/-- jumps to the rows below, when a row goes -/
theorem GKV.of {V : List RVW} {s u : RS} (g : ∀ q ∈ V, isGo q.v → ((q.2.2.2 : Nat) : Int) < (u.i 43).toInt) (e : ∀ k : Nat, 47 ≤ k → k ≤ 62 → u.a k = s.a k) (i59 : u.i 59 = s.i 59) : GKV V s u := ⟨fun q hq gq => by
  rw [e 50 (by decide) (by decide), e 51 (by decide) (by decide), e 48 (by decide) (by decide), e 49 (by decide) (by decide), e 47 (by decide) (by decide)]
  exact ⟨g q hq gq, rfl, rfl, rfl, rfl, rfl⟩, by rw [i59]; exact Int.le_refl _, fun j _ => by
  rw [e 60 (by decide) (by decide), e 61 (by decide) (by decide), e 62 (by decide) (by decide)]
  exact ⟨rfl, rfl, rfl⟩⟩
theorem GKV.o2 {V : List RVW} {s u : RS} (g : ∀ q ∈ V, isGo q.v → ((q.2.2.2 : Nat) : Int) < (u.i 43).toInt) (e : u.a 47 = s.a 47 ∧ u.a 48 = s.a 48 ∧ u.a 49 = s.a 49 ∧ u.a 50 = s.a 50 ∧ u.a 51 = s.a 51 ∧ u.a 60 = s.a 60 ∧ u.a 61 = s.a 61 ∧ u.a 62 = s.a 62) (i59 : u.i 59 = s.i 59) : GKV V s u := ⟨fun q hq gq => by
  rw [e.2.2.2.1, e.2.2.2.2.1, e.2.1, e.2.2.1, e.1]
  exact ⟨g q hq gq, rfl, rfl, rfl, rfl, rfl⟩, by rw [i59]; exact Int.le_refl _, fun j _ => by
  rw [e.2.2.2.2.2.1, e.2.2.2.2.2.2.1, e.2.2.2.2.2.2.2]
  exact ⟨rfl, rfl, rfl⟩⟩
theorem noc.gl {FC : Nat → Prop} {SF : CS} {U : RS} {nm : Nat → Nat → Prop} {X : Als} {G : GHT} {ω : Nat} {r : RVW} {j : JCT} : JGL FC SF U nm X G noc noy ω r j := fun _ _ => ⟨fun e => by (cases e), fun e => by (cases e)⟩
theorem tvs.one {x : Int32} : tvs [x] = [tv x] := rfl
/-- names at the end of a row that has no entry -/
theorem clo_nm {r : RVW} {S : CS} {s u : RS} (n1 : ¬ r.v = 212) (n2 : ¬ isTy r.v) (n3 : ¬ r.v = 304) (i : u.i = s.i) (a40 : u.a 40 = s.a 40) : ∀ (nm : Nat → Nat → Prop) (G : GHT) (ω : Nat) (j : JCT), NMG nm (jen G ω r j.h j.l ++ j.c) S s → HC0 nm j.h (jen G ω r j.h j.l ++ j.c) → NMH nm j.c S u ∧ HC0 nm j.h j.c := fun nm G ω j ng hc => by
  rw [jen.no n1 n2 n3] at ng hc
  refine ⟨?_, hc⟩
  have z := ng.h
  unfold NMH NCB SLO at z ⊢
  rw [i, a40]
  exact z
theorem e193x {N n a : Nat} {E1 : CS → Option (Unit × CS)} {E2 : CS → Option (Int32 × CS)} {S : CS} {v : Int32} {R : Unit × CS} (h53 : (S.i 53).toInt = (n : Int) + 2) (e : f_X7_endBody_193 N E1 E2 (CS.setI S 36 v) a = some R) : (∀ k : Nat, k ≠ 36 → k ≠ 50 → k ≠ 53 → R.2.i k = S.i k) ∧ R.2.i 50 = S.o a 3 ∧ (R.2.i 53).toInt = (n : Int) + 1 ∧ R.2.i 36 = v ∧ (R.2.r = S.r ∧ R.2.o = S.o ∧ R.2.ol = S.ol ∧ R.2.a = S.a ∧ R.2.b = S.b ∧ R.2.l = S.l ∧ (R.2.hs = S.hs ∧ R.2.L = S.L ∧ R.2.k = S.k)) := by
  unfold f_X7_endBody_193 at e
  obtain ⟨-, e⟩ := hf_ite e
  obtain ⟨p14, e14z, e⟩ := hf_bind e
  have e14 : f_X6_pop N (CS.setI (CS.setI S 36 v) 50 (S.o a 3)) = some p14 := e14z
  have i53 : (CS.setI (CS.setI S 36 v) 50 (S.o a 3)).i 53 = S.i 53 := by
    rw [ci_ne _ _ _ (by decide), ci_ne _ _ _ (by decide)]
  obtain ⟨p1, p2⟩ := e_pop (n := n) (by rw [i53]; omega) e14
  have eR : R.2 = CS.setI (CS.setI (CS.setI S 36 v) 50 (S.o a 3)) 53 (S.i 53 - 1) := by
    rw [← Option.some.inj e, ← i53]
    exact p1
  rw [i53] at p2
  rw [eR]
  refine ⟨fun k h1 h2 h3 => ?_, ?_, ?_, ?_, ⟨rfl, rfl, rfl, rfl, rfl, rfl, rfl, rfl, rfl⟩⟩
  · rw [ci_ne _ _ _ h3, ci_ne _ _ _ h2, ci_ne _ _ _ h1]
  · rw [ci_ne _ _ _ (by decide), ci_at]
  · rw [ci_at]
    exact p2
  · rw [ci_ne _ _ _ (by decide), ci_ne _ _ _ (by decide), ci_at]
section
variable {A : JBA} {U : RS} {B : CS} {b : RS} {V0 : List RVW} {s0 : RS} {K : JKT} {a e : Int} {P : CS} {q : RS}
/-- a row goes, in both: the states alone -/
theorem JRG.popv {V : RS} {v : Int32} {R : CS} (h : JRG A U B b V0 s0 [] K a e P q) (la : a ≤ 0) (le : e ≤ 0 ∨ (e ≤ 1 ∧ ¬ ALN (R.i 43))) (kp : pe R = pe P) (r21 : R.i 21 = P.i 21) (r44 : R.i 44 = P.i 44) (r36 : R.i 36 = v) (r48 : R.a 48 = P.a 48) (r49 : R.a 49 = P.a 49) (qV : qe V = qe q) (V38 : (V.i 38).toInt ≤ (q.i 38).toInt) (a40 : V.a 40 = q.a 40) (gk : ∀ y ∈ V0, isGo y.v → ((y.2.2.2 : Nat) : Int) < (V.i 43).toInt) (ek : (V.a 47 = s0.a 47 ∧ V.a 48 = s0.a 48 ∧ V.a 49 = s0.a 49 ∧ V.a 50 = s0.a 50 ∧ V.a 51 = s0.a 51 ∧ V.a 60 = s0.a 60 ∧ V.a 61 = s0.a 61 ∧ V.a 62 = s0.a 62)) (i59 : V.i 59 = s0.i 59) (l11 : (s0.i 11).toInt ≤ (V.i 11).toInt) (l19 : (s0.i 19).toInt ≤ (V.i 19).toInt) (hK : ∀ (FC : Nat → Prop) (SF : CS) (nm : Nat → Nat → Prop) (X : Als) (ω : Nat) (j : JCT) (Z : Prop), 1300 ≤ ω → pcC P ≤ 1200 → HC0 nm j.h j.c → K FC SF nm X ω j Z → (v = 1 → GU2 FC SF U nm X (pcC P) (pcR q) j.h (ω + j.l - pcC P) j.c) → Z) : JRW A U B b V0 R V := by
  have j2 := h.drp (R := R) (u := V) kp r21 r44 r48 r49 qV V38 a40
  have pcp : pcC R = pcC P := pcC.pe kp
  have prp : pcR V = pcR q := pcR.qe qV
  refine j2.fiw la le (fun _ => GKV.o2 gk ek i59) l11 l19 (fun FC SF nm X G h0 c0 ω Z hω r12 hA ng hcc k cur => ?_)
  rw [pcp, prp] at cur
  rw [pcp] at r12
  exact hK FC SF nm X ω _ Z hω r12 hcc k (fun z => cur (by rw [r36]; exact z))
/-- a row goes, in both -/
theorem JRG.popx {N : Nat} {q' V : RS} {v : Int32} {R : CS} (h : JRG A U B b V0 s0 [] K a e P q) (la : a ≤ 0) (le : e ≤ 0 ∨ (e ≤ 1 ∧ ¬ ALN (P.i 43))) (r1 : ∀ k : Nat, k ≠ 36 → k ≠ 50 → k ≠ 53 → R.i k = P.i k) (r4 : R.i 36 = v) (r6 : R.o = P.o) (r8 : R.a = P.a) (hq : (∀ k : Nat, k ≠ 38 → k ≠ 43 → q'.i k = q.i k) ∧ q'.a = q.a) (h38 : (q'.i 38).toInt ≤ (q.i 38).toInt) (ho : f_X12_over N q' v = some V) (gk : ∀ y ∈ V0, isGo y.v → ((y.2.2.2 : Nat) : Int) < (q'.i 43).toInt) (ek : ∀ k : Nat, 47 ≤ k → k ≤ 62 → q.a k = s0.a k) (i59 : q.i 59 = s0.i 59) (l11 : (s0.i 11).toInt ≤ (q.i 11).toInt) (l19 : (s0.i 19).toInt ≤ (q.i 19).toInt) (hK : ∀ (FC : Nat → Prop) (SF : CS) (nm : Nat → Nat → Prop) (X : Als) (ω : Nat) (j : JCT) (Z : Prop), 1300 ≤ ω → pcC P ≤ 1200 → HC0 nm j.h j.c → K FC SF nm X ω j Z → (v = 1 → GU2 FC SF U nm X (pcC P) (pcR q) j.h (ω + j.l - pcC P) j.c) → Z) : JRW A U B b V0 R V ∧ R.o = P.o ∧ V.a = q.a := by
  have eV : V = RS.setI (RS.setI q' 75 v) 63 (q'.i 63 - 1) := by
    unfold f_X12_over at ho
    obtain ⟨-, ho⟩ := hf_ite ho
    exact (Option.some.inj ho).symm
  have Va : V.a = q.a := by rw [eV]; exact hq.2
  have Vi : ∀ k : Nat, k ≠ 38 → k ≠ 43 → k ≠ 63 → k ≠ 75 → V.i k = q.i k := fun k k0 k1 k2 k3 => by
    rw [eV, ← hq.1 k k0 k1]
    exact (if_neg k2).trans (if_neg k3)
  have V43 : V.i 43 = q'.i 43 := by rw [eV]; rfl
  have V38 : V.i 38 = q'.i 38 := by rw [eV]; rfl
  clear eV
  have qV : qe V = qe q := by
    unfold qe
    rw [Va, Vi 20 (by decide) (by decide) (by decide) (by decide), Vi 24 (by decide) (by decide) (by decide) (by decide), Vi 29 (by decide) (by decide) (by decide) (by decide), Vi 33 (by decide) (by decide) (by decide) (by decide), Vi 42 (by decide) (by decide) (by decide) (by decide), Vi 52 (by decide) (by decide) (by decide) (by decide)]
  have peR : pe R = pe P := by
    unfold pe
    rw [r1 20 (by decide) (by decide) (by decide), r1 23 (by decide) (by decide) (by decide), r1 38 (by decide) (by decide) (by decide), r1 22 (by decide) (by decide) (by decide), r8]
  have j2 := h.drp (R := R) (u := V) peR (r1 21 (by decide) (by decide) (by decide)) (r1 44 (by decide) (by decide) (by decide)) (by rw [r8]) (by rw [r8]) qV (by rw [V38]; exact h38) (by rw [Va])
  have pcp : pcC R = pcC P := pcC.pe peR
  have prp : pcR V = pcR q := pcR.qe qV
  refine ⟨j2.fiw la (by rw [r1 43 (by decide) (by decide) (by decide)]; exact le) (fun _ => GKV.of (fun y hy gy => by rw [V43]; exact gk y hy gy) (fun k k1 k2 => by rw [Va]; exact ek k k1 k2) ((Vi 59 (by decide) (by decide) (by decide) (by decide)).trans i59)) (by rw [Vi 11 (by decide) (by decide) (by decide) (by decide)]; exact l11) (by rw [Vi 19 (by decide) (by decide) (by decide) (by decide)]; exact l19) (fun FC SF nm X G h0 c0 ω Z hω r12 hA ng hcc k cur => ?_), r6, Va⟩
  rw [pcp, prp] at cur
  rw [pcp] at r12
  exact hK FC SF nm X ω _ Z hω r12 hcc k (fun z => cur (by rw [r4]; exact z))
/-- the last step of a body's end -/
theorem JRG.pop1 {N n a1 : Nat} {E1 : CS → Option (Unit × CS)} {E2 : CS → Option (Int32 × CS)} {q' V : RS} {v : Int32} {R : Unit × CS} (h : JRG A U B b V0 s0 [] K a e P q) (la : a ≤ 0) (le : e ≤ 0 ∨ (e ≤ 1 ∧ ¬ ALN (P.i 43))) (h53 : (P.i 53).toInt = (n : Int) + 2) (e193 : f_X7_endBody_193 N E1 E2 (CS.setI P 36 v) a1 = some R) (hq : (∀ k : Nat, k ≠ 38 → k ≠ 43 → q'.i k = q.i k) ∧ q'.a = q.a) (h38 : (q'.i 38).toInt ≤ (q.i 38).toInt) (ho : f_X12_over N q' v = some V) (gk : ∀ y ∈ V0, isGo y.v → ((y.2.2.2 : Nat) : Int) < (q'.i 43).toInt) (ek : ∀ k : Nat, 47 ≤ k → k ≤ 62 → q.a k = s0.a k) (i59 : q.i 59 = s0.i 59) (l11 : (s0.i 11).toInt ≤ (q.i 11).toInt) (l19 : (s0.i 19).toInt ≤ (q.i 19).toInt) (hK : ∀ (FC : Nat → Prop) (SF : CS) (nm : Nat → Nat → Prop) (X : Als) (ω : Nat) (j : JCT) (Z : Prop), 1300 ≤ ω → pcC P ≤ 1200 → HC0 nm j.h j.c → K FC SF nm X ω j Z → (v = 1 → GU2 FC SF U nm X (pcC P) (pcR q) j.h (ω + j.l - pcC P) j.c) → Z) : JRW A U B b V0 R.2 V ∧ R.2.o = P.o ∧ V.a = q.a := by
  obtain ⟨r1, r2, r3, r4, r5, r6, r7, r8, r9, r10, r11⟩ := e193x (n := n) h53 e193
  exact h.popx la le r1 r4 r6 r8 hq h38 ho gk ek i59 l11 l19 hK
end
theorem clo_e (x : Int32) : ∃ ee : Int, (ee = 1 ∨ (ee = 0 ∧ ALN x)) ∧ (ee ≤ 0 ∨ (ee ≤ 1 ∧ ¬ ALN x)) := by
  by_cases z : ALN x
  · exact ⟨0, Or.inr ⟨rfl, z⟩, Or.inl (Int.le_refl _)⟩
  · exact ⟨1, Or.inl rfl, Or.inr ⟨Int.le_refl _, z⟩⟩
/-- the rows below, when a row goes -/
theorem clo_veq {d : Int32} {B : CS} {b : RS} {t0 : Nat} {L : List CEL} {x : Int} {S R : CS} {s u : RS} {c1 c : CEL} (hD : COR d B b t0 (c :: L) x S s) (tp : TOP S s c1) (lk : LNK S c1 c) (tb : ∀ j : Nat, (j : Int) < (s.i 38).toInt → u.a 40 j = s.a 40 j) (eo : ∀ y ∈ c :: L, R.o y.2.1 = S.o y.2.1) (ea : ∀ k t : Nat, 66 ≤ k → k ≤ 73 → t < ceT c1 → u.a k t = s.a k t) : vws R u (c :: L) = vws S s (c :: L) := vws.eqf (T := ceT c1) tb (c :: L) hD.o3 eo ea (fun y hy => by
  have z := STK.inl L c _ _ _ hD.2.1 (by have := tp.1; have := lk.1; omega) (by have := tp.2.1; have := lk.2.2.1; omega) (by have := tp.2.2; have := lk.2.2.2.1; omega)
  rw [← lk.2.1] at z
  have z1 := (z y hy).2.2.1
  have z2 := wid1 (S.o y.2.1 0)
  omega)
theorem HC0.tl {nm : Nat → Nat → Prop} {h : Nat} {e : Ent} {c : List Ent} (z : HC0 nm h (e :: c)) : HC0 nm h c := by
  obtain ⟨z1, z2, z3, z4⟩ := z
  have e1 : ops (e :: c) = ops c + (if e.k = 1 then e.z else 0) := rfl
  have e2 : frs (e :: c) = frs c + (if e.k ≤ 3 then 1 else 0) := rfl
  exact ⟨z1.2.2, by omega, by omega, fun e' he => z4 e' (List.mem_cons_of_mem _ he)⟩
/-- an entry less: the names -/
theorem NMH.pop {nm : Nat → Nat → Prop} {e : Ent} {c : List Ent} {S R : CS} {s u : RS} (ng : NMG nm (e :: c) S s) (ne : ¬ e.k = 2) (a48 : R.a 48 = S.a 48) (a49 : R.a 49 = S.a 49) (i38 : u.i 38 = s.i 38) (a40 : u.a 40 = s.a 40) (d38 : (S.i 38).toInt = (R.i 38).toInt + (if e.k ≤ 3 then 1 else 0)) (d52 : (s.i 52).toInt = (u.i 52).toInt + 1) (i23 : R.i 23 = S.i 23) (i42 : u.i 42 = s.i 42) (i20 : u.i 20 = s.i 20) : NMH nm c R u := by
  have e2 : frs (e :: c) = frs c + (if e.k ≤ 3 then 1 else 0) := rfl
  obtain ⟨n1, n2, n3, -, n4⟩ := ng
  refine ⟨fun k hk => ?_, ?_, ?_, ?_, fun e' he => ?_⟩
  · rw [i38] at hk
    rw [a48, a49, a40]
    refine ⟨(n1 k hk).1, fun z => ?_⟩
    obtain ⟨c1, e', c0, h1, h2, h3⟩ := (n1 k hk).2 z
    cases c1 with
    | nil =>
      have h1' : e :: c = e' :: c0 := h1
      cases h1'
      exact absurd h2 ne
    | cons x c1 =>
      have h1' : e :: c = x :: (c1 ++ e' :: c0) := h1
      cases h1'
      exact ⟨c1, e', c0, rfl, h2, h3⟩
  · rw [e2] at n2
    split at n2 <;> split at d38 <;> omega
  · have : (e :: c).length = c.length + 1 := rfl
    omega
  · have z := n4.1
    unfold SLO at z ⊢
    rw [i42, i20]
    exact z
  · have z := n4.2 e' (List.mem_cons_of_mem _ he)
    rw [i23, i42]
    exact z
section
variable {A : JBA} {U : RS} {B : CS} {b : RS} {V0 W : List RVW} {s0 : RS} {K K' : JKT} {a e : Int} {S : CS} {s : RS}
/-- the code's place is below its bound -/
theorem JRG.p12 (h : JRG A U B b V0 s0 W K a e S s) (h44 : (S.i 44).toInt ≤ 900) (ha : a ≤ 200) : JRG A U B b V0 s0 W (fun FC SF nm X ω j Z => pcC S < 1200 ∧ K FC SF nm X ω j Z) a e S s := by
  intro crB
  obtain ⟨b1, b2, b3, b4, Ψ, G, col, YJ, sax, ⟨pin, pin0⟩, tgi, jsi, main⟩ := h crB
  obtain ⟨⟨r1, r2⟩, -⟩ := crB.rms b1
  refine ⟨b1, b2, b3, b4, Ψ, G, col, YJ, sax, ⟨pin, pin0⟩, tgi, jsi, ?_⟩
  intro FC SF nm X h0 ω c0 psi ng0 hc0 hh0 hω
  obtain ⟨⟨ng, hc, hh, wn⟩, mn⟩ := main FC SF nm X h0 ω c0 psi ng0 hc0 hh0 hω
  exact ⟨⟨ng, hc, hh, wn⟩, fun fc fg hA tyc jr => ⟨by unfold pcC; omega, mn fc fg hA tyc jr⟩⟩
/-- an instruction of the reference alone -/
theorem JRG.emr {N : Nat} {o x : Int32} {V : Int32 × RS} (h : JRG A U B b V0 s0 W K a e S s) (hz : f_X12_emit N s o x = some V) (h20 : 0 ≤ (s.i 20).toInt ∧ (s.i 20).toInt < 3000) : JRG A U B b V0 s0 W (fun FC SF nm X ω j Z => (U.a 21 (pcR s) = o ∧ U.a 22 (pcR s) = x ∧ U.a 23 (pcR s) = 0 ∧ (((pcR s : Nat) : Int) < (U.i 20).toInt ∧ (U.i 20).toInt ≤ 3000) ∧ pcR V.2 = pcR s + 1) ∧ K FC SF nm X ω j Z) a e S V.2 := by
  have y := h.cod (jsp_emt (K' := fun FC SF nm X ω j Z => (U.a 21 (pcR s) = o ∧ U.a 22 (pcR s) = x ∧ U.a 23 (pcR s) = 0 ∧ (((pcR s : Nat) : Int) < (U.i 20).toInt ∧ (U.i 20).toInt ≤ 3000) ∧ pcR V.2 = pcR s + 1) ∧ K FC SF nm X ω j Z) (y := -1) hz h20 (Or.inl rfl) (fun FC SF nm X ω j Z q1 q2 q3 q4 q5 q6 ng hc hh tyc tl hω k => ⟨⟨q1, q2 rfl, q3, q4, q5⟩, k⟩))
  rw [Int.add_zero, Int.add_zero] at y
  exact y
end
/-- an instruction is laid also where another count differs -/
theorem em_52 {N : Nat} {s : RS} {o x v : Int32} {z : Int32 × RS} (h : f_X12_emit N s o x = some z) : ∃ z' : Int32 × RS, f_X12_emit N (RS.setI s 52 v) o x = some z' ∧ z'.2.a = z.2.a ∧ (∀ k : Nat, k ≠ 52 → z'.2.i k = z.2.i k) ∧ z'.2.i 52 = v ∧ (∀ k : Nat, k ≠ 20 → z.2.i k = s.i k) ∧ ∀ k : Nat, ¬ (21 ≤ k ∧ k ≤ 23) → z.2.a k = s.a k := by
  have key : ∀ y : Int32, f_X12_emit_21 N s o x y = some z → ∃ z' : Int32 × RS, f_X12_emit_21 N (RS.setI s 52 v) o x y = some z' ∧ z'.2.a = z.2.a ∧ (∀ k : Nat, k ≠ 52 → z'.2.i k = z.2.i k) ∧ z'.2.i 52 = v ∧ (∀ k : Nat, k ≠ 20 → z.2.i k = s.i k) ∧ ∀ k : Nat, ¬ (21 ≤ k ∧ k ≤ 23) → z.2.a k = s.a k := fun y h => by
    unfold f_X12_emit_21 at h ⊢
    obtain ⟨hi, h⟩ := hf_ite h
    rw [if_pos hi]
    refine ⟨_, rfl, ?_⟩
    rw [← Option.some.inj h]
    refine ⟨rfl, fun k hk => ?_, rfl, fun k hk => if_neg hk, fun k hk => ?_⟩
    · by_cases h2 : k = 20
      · subst h2
        rfl
      · exact ((if_neg h2).trans (if_neg hk)).trans (if_neg h2).symm
    · show (RS.setA (RS.setA (RS.setA s 21 y.toNatClampNeg o) 22 y.toNatClampNeg x) 23 y.toNatClampNeg 0).a k = s.a k
      rw [setA_nk (by omega), setA_nk (by omega), setA_nk (by omega)]
  have e20 : (RS.setI s 52 v).i 20 = s.i 20 := rfl
  unfold f_X12_emit at h ⊢
  rw [e20]
  by_cases c : 3000 ≤ s.i 20
  · rw [if_pos c] at h ⊢
    exact key _ h
  · rw [if_neg c] at h ⊢
    exact key _ h
theorem sfr_ss {S : CS} {s : RS} : ∀ L : List CEL, (sfr (vws S s L) : Int) ≤ SSM S L
  | [] => Int.le_refl _
  | c :: L => by
    have ih := sfr_ss (S := S) (s := s) L
    have e1 : sfr (vws S s (c :: L)) = sfr (vws S s L) + dfr (S.o c.2.1 0) := rfl
    have e2 : SSM S (c :: L) = (nSg (S.o c.2.1 0) : Int) + SSM S L := rfl
    have e3 : dfr (S.o c.2.1 0) ≤ nSg (S.o c.2.1 0) := by
      unfold dfr nSg
      by_cases z : S.o c.2.1 0 = 212 ∨ S.o c.2.1 0 = 213 ∨ S.o c.2.1 0 = 215 ∨ S.o c.2.1 0 = 216
      · rw [if_pos z, if_pos (Or.inr (Or.inr (by rcases z with z | z | z | z; exact Or.inl z; exact Or.inr (Or.inl z); exact Or.inr (Or.inr (Or.inl z)); exact Or.inr (Or.inr (Or.inr (Or.inl z))))))]
        exact Nat.le_refl _
      · rw [if_neg z]
        exact Nat.zero_le _
    omega
