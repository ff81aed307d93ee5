/-! both readers: a try's head, its steps -/
theorem HRW.zz {s0 : CS} {r0 : RS} {A : Als} {e e' : Ent} {c : List Ent} {W : Nat} (hh : e'.h = e.h) (hx : e'.x = e.x) (hy : e'.y = e.y) (hu : e'.u = e.u) : ∀ (n p : Nat) (k : Int32), HRW s0 r0 A e c W n p k → HRW s0 r0 A e' c W n p k := by
  intro n
  induction n with
  | zero => intro _ _ h; exact h
  | succ n ih =>
    intro p k h
    obtain ⟨h0, h⟩ := h
    refine ⟨h0, ?_⟩
    rcases h with h | ⟨h1, j, pb, qb, z, l', w, a2, a3, a4, a5, a6, ⟨a7, a8⟩, a9⟩ | ⟨h1, p', h2, h3⟩
    · exact Or.inl h
    · exact Or.inr (Or.inl ⟨h1, j, pb, qb, z, l', w, a2, a3, a4, a5, a6, ⟨by rw [hh, hx, hy, hu]; exact a7, a8⟩, ih _ _ a9⟩)
    · exact Or.inr (Or.inr ⟨h1, p', h2, ih _ _ h3⟩)
/-- a try's entry: z things are open -/
def enT (x y z h u : Nat) : Ent := (1, h, x, y, z, 0, u)
theorem HBD.zz {s0 : CS} {r0 : RS} {A : Als} {x y z z' h u : Nat} {c : List Ent} {W : Nat} (k : HBD s0 r0 A (enT x y z h u) c W) : HBD s0 r0 A (enT x y z' h u) c W := by
  obtain ⟨n, p, a, b, d⟩ := k
  exact ⟨n, p, a, b, HRW.zz (e := enT x y z h u) (e' := enT x y z' h u) rfl rfl rfl rfl _ _ _ d⟩
theorem HFN.zz {s0 : CS} {r0 : RS} {A : Als} {x y z z' h u : Nat} {c : List Ent} {W : Nat} (k : HFN s0 r0 A (enT x y z h u) c W) : HFN s0 r0 A (enT x y z' h u) c W := k
theorem HC0.try {nm : Nat → Nat → Prop} {x y k h u : Nat} {c : List Ent} (z : HC0 nm h c) (l : frs c ≤ 21) (m : ops c + k ≤ 320) : HC0 nm h (enT x y k h u :: c) := by
  obtain ⟨z1, z2, z3, z4⟩ := z
  refine ⟨⟨fun k q => ?_, fun l q => ?_, z1⟩, ?_, ?_, fun e he => ?_⟩
  · rcases q with ⟨q, -⟩ | ⟨q, -⟩ <;> exact absurd (show (1 : Nat) = _ from q) (by decide)
  · exact absurd (show (1 : Nat) = 2 from q.1) (by decide)
  · show ops c + (if (1 : Nat) = 1 then k else 0) ≤ 320
    rw [if_pos rfl]
    exact m
  · show frs c + (if (1 : Nat) ≤ 3 then 1 else 0) ≤ 22
    rw [if_pos (by decide)]
    omega
  · rcases List.mem_cons.mp he with q | q
    · rw [q]
      exact Nat.le_refl _
    · exact z4 e q
theorem try_l1 {a b p : Nat} (h : p < 1200) : (a + (b + 1265)) + 2 ≤ a + b + 2528 - p := by omega
theorem try_l2 {a b p : Nat} (h : p < 1200) : a + b + 2528 - (p + 1) + 1 ≤ a + b + 2528 - p := by omega
/-- inside a try's head: good here gives Z, if its handlers are good -/
def TRK (U : RS) (x y z p q : Nat) : JKT := fun FC SF nm X ω j Zp => HBD SF U (GU FC SF U nm X) (enT x y z j.h (ω + j.l)) j.c (ω + (j.l + 1265)) → HFN SF U (GU FC SF U nm X) (enT x y z j.h (ω + j.l)) j.c (ω + (j.l + 1265)) → (∃ w : Nat, w ≤ ω + j.l + 2528 - p ∧ GU FC SF U nm X p q j.h w 0 (enT x y z j.h (ω + j.l) :: j.c)) → Zp
section
variable {A : JBA} {U : RS} {B : CS} {b : RS} {V0 : List RVW} {s0 : RS} {W : List RVW} {K K' : JKT} {a e : Int} {S : CS} {s : RS}
/-- TRY in both -/
theorem JRG.ent {N x y : Nat} {ox oy : Int32} {p : Unit × CS} {V : Int32 × RS} (h : JRG A U B b V0 s0 W (JQG U 2528 0 1 (pcC S) (pcR s) JQZ) a e S s) (e1 : f_X0_add N S 54 ox = some p) (h44 : (S.i 44).toInt ≤ 900) (ha : a ≤ 200) (hz : f_X12_emit N s 31 oy = some V) (h20 : 0 ≤ (s.i 20).toInt ∧ (s.i 20).toInt < 3000) (hx : ox.toInt = (x : Int)) (hy : oy.toInt = (y : Int)) (l19 : (s0.i 19).toInt ≤ 20) : JRG A U B b V0 s0 W (TRK U x y 0 (pcC p.2) (pcR V.2)) (a + 1) e p.2 V.2 :=
  h.one (K' := TRK U x y 0 (pcC p.2) (pcR V.2)) e1 h44 ha hz h20 (fun FC SF nm X ω j Z pq a1 a2 b1 b2 b3 c1 c2 ng hc hh tyc tl hω k _ _ gu => k (by
    obtain ⟨w, lw, gu⟩ := gu
    rw [c1] at lw
    rw [c1, c2] at gu
    have p12 := pq.1
    have f19 := ng.2
    have l2 : w + 1 ≤ ω + j.l + 2528 - pcC S := by
      have := try_l2 (a := ω) (b := j.l) p12
      omega
    exact gi_UTry (pq.hc hc) pq.2.1 ⟨a1, b1, rfl, by omega, x, y, ω + j.l, by rw [a2]; exact hx, by rw [b2]; exact hy, w, l2, gu⟩))
/-- OPEN in both -/
theorem JRG.opr {N x y z : Nat} {o o' : Int32} {p : Unit × CS} {V : Int32 × RS} (h : JRG A U B b V0 s0 W (TRK U x y z (pcC S) (pcR s)) a e S s) (e1 : f_X0_add N S 55 o = some p) (h44 : (S.i 44).toInt ≤ 900) (ha : a ≤ 200) (hz : f_X12_emit N s 32 o' = some V) (h20 : 0 ≤ (s.i 20).toInt ∧ (s.i 20).toInt < 3000) (ho : o = o') (l19 : (s0.i 19).toInt ≤ 20) (l11 : (s0.i 11).toInt + 3 * (z : Int) ≤ 900) : JRG A U B b V0 s0 W (TRK U x y (z + 1) (pcC p.2) (pcR V.2)) (a + 1) e p.2 V.2 :=
  h.one (K' := TRK U x y (z + 1) (pcC p.2) (pcR V.2)) e1 h44 ha hz h20 (fun FC SF nm X ω j Z pq a1 a2 b1 b2 b3 c1 c2 ng hc hh tyc tl hω k hb hf gu => k hb.zz hf.zz ⟨ω + j.l + 2528 - pcC S, Nat.le_refl _, (by
    obtain ⟨w, lw, gu⟩ := gu
    rw [c1] at lw
    rw [c1, c2] at gu
    have p12 := pq.1
    have f19 := ng.2
    have m : 2 * j.h + (j.c.length + 3 * ops j.c) = 2 * j.h + msr j.c := rfl
    have hc' : HC0 nm j.h (enT x y z j.h (ω + j.l) :: j.c) := hc.try (by omega) (by omega)
    have ty : TYC SF U (GU FC SF U nm X) (ω + (j.l + 1265)) (enT x y z j.h (ω + j.l) :: j.c) := ⟨fun _ => hb.zz, fun _ => hf.zz, tyc.up (by omega)⟩
    have l1 : (ω + (j.l + 1265)) + 2 ≤ ω + j.l + 2528 - pcC S := try_l1 p12
    have l3 := try_l2 (a := ω) (b := j.l) p12
    have l2 : w + 1 ≤ ω + j.l + 2528 - pcC S := Nat.le_trans (Nat.succ_le_succ lw) l3
    obtain ⟨u9, hu9⟩ : ∃ u9 : Nat, u9 = ω + (j.l + 1265) := ⟨_, rfl⟩
    rw [← hu9] at ty l1
    have e3 : SF.a 16 (pcC S) = U.a 22 (pcR s) := by rw [a2, b2, ho]
    exact gi_UOpe (pq.hc hc') pq.2.1 ⟨a1, b1, e3, u9, enT x y z j.h (ω + j.l), j.c, l1, ty, rfl, rfl, w, l2, gu⟩)⟩)
/-- the class alone: tokens -/
theorem JRG.cek {R : CS} (m : Int) (h : JRG A U B b V0 s0 W K a e S s) (ke : pe R = pe S) (i21 : R.i 21 = S.i 21) (a48 : R.a 48 = S.a 48) (a49 : R.a 49 = S.a 49) (i50 : R.i 50 = S.i 50) (l : (S.i 44).toInt + m ≤ (R.i 44).toInt) : JRG A U B b V0 s0 W K (a - m) (e - m) R s := by
  have c1 : CD1 (-m) (-m) S R := CD1.pe (b := m) ke i21 i50 a48 a49 l
  have y : JSP (-1) a e (-m) (-m) U s0 K K S s R s := fun _ => ⟨GPS.tt, c1.k, ⟨CT7.eq (pe_eq ke).2.2.2.1, NK.eq a48 a49 rfl rfl⟩, KD2.rf _ _, SAT.tt _ _ _ _ (SLC.eq rfl (Int.le_refl _)), fun _ nm c _ _ ng => ⟨fun k hk => by
    rw [a48, a49]
    exact ng.1 k hk, by rw [c1.2.2.2.2.2.2.1]; exact ng.2.1, ng.2.2.1, ng.2.2.2.mv c1.2.2.2.2.2.1.1 (SLC.eq rfl (Int.le_refl _))⟩, fun _ _ _ _ _ _ _ _ _ _ _ _ _ _ _ _ k => k⟩
  exact h.cod y
end
/-- states whose depth is as it was -/
theorem pe.s38 {R S : CS} {v : Int32} (h : pe R = pe S) : pe (CS.setI R 38 v) = pe (CS.setI S 38 v) := by
  obtain ⟨e20, e15, e16, e17, e23, -, e22, e19⟩ := pe_eq h
  have e : ∀ s : CS, pe (CS.setI s 38 v) = (s.i 20, s.a 15, s.a 16, s.a 17, s.i 23, v, s.i 22, s.a 19) := fun _ => rfl
  rw [e, e, e20, e15, e16, e17, e23, e22, e19]
theorem va_cm {f : Nat → Int32} {k l : Nat} {v w : Int32} (h : k ≠ l) : va_up (va_up f k v) l w = va_up (va_up f l w) k v := by
  funext j
  unfold va_up
  by_cases q : j = l
  · rw [if_pos q, if_neg (fun z => h (z.symm.trans q)), if_pos q]
  · rw [if_neg q]
    by_cases z : j = k
    · rw [if_pos z, if_pos z]
    · rw [if_neg z, if_neg z, if_neg q]
theorem csI_cm {S : CS} {k l : Nat} {v w : Int32} (h : k ≠ l) : CS.setI (CS.setI S k v) l w = CS.setI (CS.setI S l w) k v := congrArg (fun f => (some (S.hs, f, S.l, S.a, S.b, S.r, S.w, S.L, S.k, S.o, S.ol, S.ot, S.oa) : CS)) (va_cm h)
theorem rsI_cm {s : RS} {k l : Nat} {v w : Int32} (h : k ≠ l) : RS.setI (RS.setI s k v) l w = RS.setI (RS.setI s l w) k v := congrArg (fun f => ((f, s.l, s.a, s.b) : RS)) (va_cm h)
theorem add_sh {N : Nat} {S : CS} {o x D : Int32} {p : Unit × CS} (e : f_X0_add N S o x = some p) : f_X0_add N (CS.setI S 38 D) o x = some ((), CS.setI p.2 38 D) := by
  unfold f_X0_add at e ⊢
  cases e
  exact congrArg (fun z => some ((), z)) (csI_cm (S := CS.putA (CS.putA S 15 (gPut (S.a 15) 1200 (S.i 20) o)) 16 (gPut (CS.a (CS.putA S 15 (gPut (S.a 15) 1200 (S.i 20) o)) 16) 1200 (S.i 20) x)) (k := 38) (l := 20) (v := D) (w := S.i 20 + 1) (by decide))
theorem em_sh {N : Nat} {s : RS} {o x E : Int32} {V : Int32 × RS} (hz : f_X12_emit N s o x = some V) : f_X12_emit N (RS.setI s 52 E) o x = some (V.1, RS.setI V.2 52 E) := by
  unfold f_X12_emit f_X12_emit_21 at hz ⊢
  by_cases c : (3000 : Int32) ≤ s.i 20
  · rw [if_pos c] at hz
    rw [if_pos (show (3000 : Int32) ≤ (RS.setI s 52 E).i 20 from c)]
    obtain ⟨hib, hz⟩ := hf_ite hz
    rw [if_pos hib]
    cases hz
    exact congrArg (fun z => some ((2999 : Int32), z)) (rsI_cm (s := RS.setA (RS.setA (RS.setA s 21 ((2999 : Int32).toNatClampNeg) o) 22 ((2999 : Int32).toNatClampNeg) x) 23 ((2999 : Int32).toNatClampNeg) 0) (k := 52) (l := 20) (v := E) (w := 2999 + 1) (by decide))
  · rw [if_neg c] at hz
    rw [if_neg (show ¬ (3000 : Int32) ≤ (RS.setI s 52 E).i 20 from c)]
    obtain ⟨hib, hz⟩ := hf_ite hz
    rw [if_pos (show ib ((RS.setI s 52 E).i 20) 3000 from hib)]
    cases hz
    exact congrArg (fun z => some (s.i 20, z)) (rsI_cm (s := RS.setA (RS.setA (RS.setA s 21 ((s.i 20).toNatClampNeg) o) 22 ((s.i 20).toNatClampNeg) x) 23 ((s.i 20).toNatClampNeg) 0) (k := 52) (l := 20) (v := E) (w := s.i 20 + 1) (by decide))
/-- a try that waits, with its exit -/
def yv (y x : Int32) : RVW := (fun k => if k = 0 then 216 else x, fun k => if k = 66 then y else -1, 0, 0)
theorem yv.v {y x : Int32} : (yv y x).v = 216 := rfl
theorem yv.ty {y x : Int32} : isTyv (yv y x) := Or.inr (Or.inr (Or.inr rfl))
theorem yv.tgs {y x : Int32} : rtgs (yv y x) = [x] := by
  unfold rtgs
  rw [yv.v, if_neg (by decide), if_pos (by decide)]
  rfl
theorem yv.site {y x : Int32} {k : Nat} : ¬ rsite (yv y x) k := fun h => by
  rcases h with ⟨h, -⟩ | ⟨h, -⟩ | ⟨h, -⟩ | ⟨h, -⟩
  · rcases h with h | h | h <;> exact absurd h (by rw [yv.v]; decide)
  · exact absurd h (by rw [yv.v]; decide)
  · rcases h with h | h <;> exact absurd h (by rw [yv.v]; decide)
  · rcases h with h | h <;> exact absurd h (by rw [yv.v]; decide)
theorem yv.pty {y x x' : Int32} {V : List RVW} {k : Nat} (h : PTY (yv y x :: V) k) : (k : Int) = y.toInt ∨ PTY (tv x' :: V) k := by
  obtain ⟨r, hr, p1, p2⟩ := h
  rcases List.mem_cons.mp hr with z | hr
  · rw [z] at p2
    exact Or.inl p2
  · exact Or.inr ⟨r, List.mem_cons_of_mem _ hr, p1, p2⟩
theorem yv.pca {y x x' : Int32} {V : List RVW} {k : Nat} (h : PCA (yv y x :: V) k) : PCA (tv x' :: V) k := by
  obtain ⟨r, hr, p1, p2⟩ := h
  rcases List.mem_cons.mp hr with z | hr
  · rw [z] at p2
    have p3 : (k : Int) = (-1 : Int32).toInt := p2
    have e1 : (-1 : Int32).toInt = -1 := by decide
    omega
  · exact ⟨r, List.mem_cons_of_mem _ hr, p1, p2⟩
theorem PEN.cs {r : RVW} {V : List RVW} {col : Nat → Option (Nat × Bool)} {k : Nat} (p : PEN V col k) : PEN (r :: V) col k := by
  rcases p with p | ⟨q, hq, p⟩
  · exact Or.inl p
  · exact Or.inr ⟨q, List.mem_cons_of_mem _ hq, p⟩
theorem PCZ.cs {r : RVW} {V : List RVW} {k : Nat} (p : PCZ V k) : PCZ (r :: V) k := by
  obtain ⟨q, hq, p⟩ := p
  exact ⟨q, List.mem_cons_of_mem _ hq, p⟩
theorem PCH.cs {r : RVW} {V : List RVW} {k : Nat} (p : PCH V k) : PCH (r :: V) k := by
  obtain ⟨q, hq, p⟩ := p
  exact ⟨q, List.mem_cons_of_mem _ hq, p⟩
/-- a try's record: its number -/
def ALC (s u : RS) : Prop := (u.i 20 = s.i 20 ∧ u.i 24 = s.i 24 ∧ (u.i 29).toInt = (s.i 29).toInt + 1 ∧ u.i 33 = s.i 33 ∧ u.i 42 = s.i 42 ∧ u.i 52 = s.i 52) ∧ (u.a 21 = s.a 21 ∧ u.a 22 = s.a 22 ∧ u.a 23 = s.a 23) ∧ (u.a 25 = s.a 25 ∧ u.a 26 = s.a 26 ∧ u.a 27 = s.a 27 ∧ u.a 28 = s.a 28) ∧ (∀ j : Nat, (j : Int) < (s.i 29).toInt → u.a 30 j = s.a 30 j ∧ u.a 31 j = s.a 31 j ∧ u.a 32 j = s.a 32 j) ∧ (u.a 34 = s.a 34 ∧ u.a 35 = s.a 35 ∧ u.a 36 = s.a 36 ∧ u.a 37 = s.a 37)
theorem ALC.kd {s u : RS} (h : ALC s u) (c : Int) : KD2 c s u := by
  obtain ⟨⟨i20, i24, i29, i33, i42, i52⟩, ⟨a21, a22, a23⟩, ⟨a25, a26, a27, a28⟩, h3, ⟨a34, a35, a36, a37⟩⟩ := h
  exact ⟨⟨by rw [i20]; exact Int.le_refl _, by rw [i24]; exact Int.le_refl _, by omega, by rw [i33]; exact Int.le_refl _, SLC.eq i42 (by rw [i20]; exact Int.le_refl _)⟩, fun j _ => ⟨by rw [a21], by rw [a22], by rw [a23]⟩, fun j _ => ⟨by rw [a25], by rw [a26], by rw [a27], by rw [a28]⟩, h3, fun j _ => ⟨by rw [a34], by rw [a35], by rw [a36], by rw [a37]⟩⟩
section
variable {A : JBA} {U : RS} {B : CS} {b : RS} {V0 : List RVW} {s0 : RS} {W : List RVW} {K : JKT} {a e : Int} {S : CS} {s u : RS}
theorem JRG.alc {x y : Int32} (h : JRG A U B b V0 s0 (tv x :: W) K a e S s) (al : ALC s u) (nv : NMV s u) (hy : y.toInt = (s.i 29).toInt) : JRG A U B b V0 s0 (yv y x :: W) K a e S u := by
  intro crB
  obtain ⟨b1, ⟨b2, n8⟩, b3, b4, Ψ, G, col, YJ, sax, ⟨pin, pin0⟩, tgi, jsi, main⟩ := h crB
  have kd := al.kd
  obtain ⟨⟨i20, i24, i29, i33, i42, i52⟩, ⟨a21, a22, a23⟩, ⟨a25, a26, a27, a28⟩, h3, ⟨a34, a35, a36, a37⟩⟩ := al
  have tg : ptl ((yv y x :: W) ++ V0) = ptl ((tv x :: W) ++ V0) := by
    show rtgs (yv y x) ++ ptl (W ++ V0) = rtgs (tv x) ++ ptl (W ++ V0)
    rw [yv.tgs, tv.tgs]
  have slc := (kd 0).1.2.2.2.2
  refine ⟨b1, ⟨b2, n8.nk (NK.eq rfl rfl i52 nv.1)⟩, b3.tr (kd _), b4.tr (kd 0), Ψ, G, col, YJ, ?_, ⟨⟨fun k q => ?_, fun k q => ?_, fun k q => ?_, fun k q => ?_⟩, pin0⟩, ?_, ⟨jsi.1.mv ((rjw.n (fun z => z.2 rfl)).trans (tv.rj x W).symm) (fun r hr => (List.mem_cons.mp hr).elim (fun z => Or.inr (fun k q => by rw [z] at q; exact absurd q yv.site)) (fun z => Or.inl (List.mem_cons_of_mem _ z))) b4 (kd _) (fun _ _ q => q), jsi.2.1, HDS.cs (fun r hr => jsi.2.2.1 r (List.mem_cons_of_mem _ hr)) (rhd.no (by rw [yv.v]; decide)), jsi.2.2.2.kd (KD1.rf S) (kd _)⟩, ?_⟩
  · intro sl
    obtain ⟨t1, F, M, t2, t3⟩ := sax sl
    refine ⟨⟨(slc t1.1).2, fun k p => t1.2 k (yv.pca (x' := x) p)⟩, F, M, ?_, fun FC nm w => t3 FC nm ⟨fun y' y1 y2 y3 => w.1 y' y1 (by omega) (fun p => ?_), fun k l z => w.2 k l (by rw [i42]; exact z)⟩⟩
    · unfold GHM at t2 ⊢
      rw [i42]
      exact t2
    · rcases yv.pty (x' := x) p with z | z
      · omega
      · exact y3 z
  · rw [i20]
    exact pin.1 k ((q.nt yv.site).cs)
  · rw [i24]
    exact pin.2.1 k (PCZ.cs (q.nt (by rw [yv.v]; decide)))
  · rcases yv.pty (x' := x) q with z | z
    · omega
    · have := pin.2.2.1 k z
      omega
  · rw [i33]
    exact pin.2.2.2 k (yv.pca q)
  · unfold TGI at tgi ⊢
    rw [tg]
    exact tgi
  intro FC SF nm X h0 ω c0 psi ng0 hc0 hh0 hω
  obtain ⟨⟨ng, hc, hh, wn⟩, mn⟩ := main FC SF nm X h0 ω c0 psi ng0 hc0 hh0 hω
  refine ⟨⟨⟨⟨fun k hk => ?_, ng.1.2.1, by rw [i52]; exact ng.1.2.2.1, ng.1.2.2.2.mv (Int.le_refl _) slc⟩, ng.2⟩, hc, hh, wn.mv (Int.le_refl _) (fun r hr hv => ?_)⟩, fun fc fg hA tyc jr => mn (fc.pl (fun z hz => by rw [tg] at hz; exact hz)) ?_ hA tyc jr⟩
  · rw [nv.1] at hk
    rw [nv.2 k hk]
    exact ng.1.1 k hk
  · rcases List.mem_cons.mp hr with z | z
    · rw [z] at hv
      exact absurd hv (WGD.no (by rw [yv.v]; decide) rfl)
    · exact List.mem_cons_of_mem _ z
  · obtain ⟨h1, h4, h5, h6, h7⟩ := fg
    refine ⟨by rw [i20] at h1; exact h1, fun j j1 j2 => ?_, fun j j1 j2 => ?_, fun j j1 j2 q => ?_, fun j j1 j2 => ?_⟩
    · obtain ⟨f1, f2, f3⟩ := h4 j j1 (by rw [i20]; exact j2)
      exact ⟨by rw [f1, a21], fun q => by rw [f2 (fun p => q ((p.nt yv.site).cs)), a22], fun q => by rw [f3 (fun p => q (PCH.cs (p.nt (by rw [yv.v]; decide)))), a23]⟩
    · obtain ⟨f1, f2, f3, f4⟩ := h5 j j1 (by rw [i24]; exact j2)
      exact ⟨by rw [f1, a25], by rw [f2, a26], fun q => by rw [f3 (fun p => q (PCZ.cs (p.nt (by rw [yv.v]; decide)))), a27], by rw [f4, a28]⟩
    · obtain ⟨f1, f2, f3⟩ := h6 j j1 (by omega) (fun p => by
        rcases yv.pty (x' := x) p with z | z
        · omega
        · exact q z)
      obtain ⟨g1, g2, g3⟩ := h3 j j2
      exact ⟨f1.trans g1, f2.trans g2, f3.trans g3⟩
    · obtain ⟨f1, f2, f3, f4⟩ := h7 j j1 (by rw [i33]; exact j2)
      exact ⟨by rw [f1, a34], by rw [f2, a35], by rw [f3, a36], fun q => by rw [f4 (fun p => q (yv.pca p)), a37]⟩
/-- as JST.go: the step, with all that it may bring -/
theorem JST.go2 {N : Nat} {P : CS} {q : RS} (j : JST N S s P q) (h : JRW A U B b V0 S s) (h1 : e = 1 ∨ (e = 0 ∧ ALN (S.i 43))) (n50 : S.i 50 = s.i 38) : JRG A U B b V0 s [] (JQG U 2528 0 1 (pcC P) (pcR q) JQZ) 1 e P q := by
  obtain ⟨d1, S1, s1, p, y, ev, cS, tS, cs, pS, ps, ph, e1, hy, eP, eq, -, nv⟩ := j
  have q44 : (S1.i 44).toInt = (s1.i 11).toInt := by rw [ev.p44.1]
  have h6 := (i11_hi ev).2
  have p20 := ev.p20
  rw [← eP, ← eq]
  have y1 := (h.go h1).cod (jsp_tok cS tS cs n50 nv)
  have pc : pcC S1 = pcC S := by unfold pcC; rw [pS]
  have pr : pcR s1 = pcR s := by unfold pcR; rw [ps]
  have y2 : JRG A U B b V0 s [] (JQA U 0 0 (pcC S1) (pcR s1) JQZ) 0 e S1 s1 := y1.imp (by omega) (by omega) (fun FC SF nm X ω j Z _ _ _ _ _ _ k q => by
    rw [pc, pr] at q
    exact k ⟨q 0, q 1⟩)
  exact (y2.stp (δ' := 2528) e1 (by omega) (by decide) hy ⟨p20.1, by omega⟩ (by omega))
end
