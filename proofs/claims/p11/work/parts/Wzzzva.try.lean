/-! both readers: between a try's blocks -/
/-- an entry less, a catch's: the names outside -/
theorem NMH.pop2 {nm : Nat → Nat → Prop} {e : Ent} {c : List Ent} {S R : CS} {s u : RS} (ng : NMG nm (e :: c) S s) (l38 : (u.i 38).toInt ≤ (s.i 38).toInt) (nb : e.k = 2 → ∀ k : Nat, (k : Int) < (u.i 38).toInt → ¬ (s.a 40 k).toInt = (e.w : Int)) (a48 : R.a 48 = S.a 48) (a49 : R.a 49 = S.a 49) (a40 : u.a 40 = s.a 40) (d38 : (S.i 38).toInt = (R.i 38).toInt + (if e.k ≤ 3 then 1 else 0)) (d52 : (s.i 52).toInt = (u.i 52).toInt + 1) (i23 : R.i 23 = S.i 23) (i42 : u.i 42 = s.i 42) (i20 : u.i 20 = s.i 20) : NMH nm c R u := by
  have e2 : frs (e :: c) = frs c + (if e.k ≤ 3 then 1 else 0) := rfl
  obtain ⟨n1, n2, n3, -, n4⟩ := ng
  refine ⟨fun k hk => ?_, ?_, ?_, ?_, fun e' he => ?_⟩
  · have hk' : (k : Int) < (s.i 38).toInt := by omega
    rw [a48, a49, a40]
    refine ⟨(n1 k hk').1, fun z => ?_⟩
    obtain ⟨c1, e', c0, h1, h2, h3, h4, h5⟩ := (n1 k hk').2 z
    cases c1 with
    | nil =>
      have h1' : e :: c = e' :: c0 := h1
      cases h1'
      exact absurd h4 (nb h2 k hk)
    | cons x c1 =>
      have h1' : e :: c = x :: (c1 ++ e' :: c0) := h1
      cases h1'
      exact ⟨c1, e', c0, rfl, h2, h3, h4, h5⟩
  · rw [e2] at n2
    split at n2 <;> split at d38 <;> omega
  · have : (e :: c).length = c.length + 1 := rfl
    omega
  · have z := n4.1
    unfold SLO at z ⊢
    rw [i42, i20]
    exact z
  · have z := n4.2 e' (List.mem_cons_of_mem _ he)
    rw [i23, i42]
    exact z
theorem vw_s {S : CS} {s : RS} {c : CEL} {k : Nat} (h : (k : Int) < (S.o c.2.1 3).toInt) : (vw S s c).2.1 (1000 + k) = s.a 40 k := by
  show (if 66 ≤ 1000 + k ∧ 1000 + k ≤ 73 then s.a (1000 + k) (ceT c) else if 1000 ≤ 1000 + k ∧ ((1000 + k : Nat) : Int) - 1000 < (S.o c.2.1 3).toInt then s.a 40 (1000 + k - 1000) else 0) = _
  rw [if_neg (by omega), if_pos (by omega), Nat.add_sub_cancel_left]
theorem em_s38 {N : Nat} {s : RS} {o x E : Int32} {V : Int32 × RS} (hz : f_X12_emit N s o x = some V) : f_X12_emit N (RS.setI s 38 E) o x = some (V.1, RS.setI V.2 38 E) := by
  unfold f_X12_emit f_X12_emit_21 at hz ⊢
  by_cases c : (3000 : Int32) ≤ s.i 20
  · rw [if_pos c] at hz
    rw [if_pos (show (3000 : Int32) ≤ (RS.setI s 38 E).i 20 from c)]
    obtain ⟨hib, hz⟩ := hf_ite hz
    rw [if_pos hib]
    cases hz
    exact congrArg (fun z => some ((2999 : Int32), z)) (rsI_cm (s := RS.setA (RS.setA (RS.setA s 21 ((2999 : Int32).toNatClampNeg) o) 22 ((2999 : Int32).toNatClampNeg) x) 23 ((2999 : Int32).toNatClampNeg) 0) (k := 38) (l := 20) (v := E) (w := 2999 + 1) (by decide))
  · rw [if_neg c] at hz
    rw [if_neg (show ¬ (3000 : Int32) ≤ (RS.setI s 38 E).i 20 from c)]
    obtain ⟨hib, hz⟩ := hf_ite hz
    rw [if_pos (show ib ((RS.setI s 38 E).i 20) 3000 from hib)]
    cases hz
    exact congrArg (fun z => some (s.i 20, z)) (rsI_cm (s := RS.setA (RS.setA (RS.setA s 21 ((s.i 20).toNatClampNeg) o) 22 ((s.i 20).toNatClampNeg) x) 23 ((s.i 20).toNatClampNeg) 0) (k := 38) (l := 20) (v := E) (w := s.i 20 + 1) (by decide))
theorem HFN.up {s0 : CS} {r0 : RS} {A : Als} {e : Ent} {c : List Ent} {W W' : Nat} (l : W ≤ W') (h : HFN s0 r0 A e c W) : HFN s0 r0 A e c W' := by
  rcases h with h | ⟨p, q, w, h1, h2, h3, h4, h5⟩
  · exact Or.inl h
  · exact Or.inr ⟨p, q, w, h1, h2, h3, h4, by omega⟩
/-- a try, as its handlers see it -/
def ty5 (r : RVW) (ω : Nat) (j : JCT) : Ent := (1, j.h, (r.1 9).toNatClampNeg - 2, (r.2.1 66).toNatClampNeg, 0, 0, ω + j.l)
/-- its exit, if one of its blocks ends -/
def K5E (U : RS) (r : RVW) (FC : Nat → Prop) (SF : CS) (nm : Nat → Nat → Prop) (X : Als) (ω : Nat) (j : JCT) : Prop := r.1 6 = 1 → (U.a 31 (r.2.1 66).toNatClampNeg).toInt < 0 ∨ FC (r.2.1 66).toNatClampNeg → ∃ p q : Nat, (cTg SF (r.1 9)).toInt = (p : Int) ∧ (U.a 32 (r.2.1 66).toNatClampNeg).toInt = (q : Int) ∧ GU FC SF U nm X p q j.h (ω + j.l - p) 0 j.c
/-- what is known between a try's blocks: the next handler at p0, m places of handlers used up -/
def K5 (U : RS) (r : RVW) (x : Int32) (p0 m : Nat) : JKT := fun FC SF nm X ω j Z => (∃ n : Nat, n + m ≤ 300 ∧ HRW SF U (GU FC SF U nm X) (ty5 r ω j) j.c (ω + (j.l + 1265) - (p0 + 2)) n p0 (khd U r)) → HFN SF U (GU FC SF U nm X) (ty5 r ω j) j.c (ω + (j.l + 1265) - (p0 + 2)) → K5E U r FC SF nm X ω j → (0 ≤ (r.2.1 72).toInt → U.a 30 (r.2.1 66).toNatClampNeg = x) → Z
/-- between a try's blocks -/
def JR5 (A : JBA) (U : RS) (B : CS) (b : RS) (V : List RVW) (r : RVW) (S : CS) (s : RS) : Prop := CRQB B → ∃ (m : Nat) (s0 : RS), ((s.a 31 (r.2.1 66).toNatClampNeg).toInt < 0 ∧ (SLO b → (s.i 42).toInt + 1 ≤ (s.i 20).toInt + 8)) ∧ (m = 0 ∨ 3 * (m : Int) + 3 ≤ (s.i 11).toInt) ∧ ((s.i 43 = s0.i 43 ∧ s.i 59 = s0.i 59 ∧ ∀ k : Nat, (k = 47 ∨ k = 48 ∨ k = 49 ∨ k = 50 ∨ k = 51 ∨ k = 60 ∨ k = 61 ∨ k = 62) → s.a k = s0.a k) ∧ (s0.i 19).toInt ≤ (s.i 19).toInt ∧ (s0.i 11).toInt ≤ (s.i 11).toInt) ∧ JRG A U B b V s0 [r] (K5 U r (s.a 30 (r.2.1 66).toNatClampNeg) (pcC S) m) (-1) 0 (CS.setI S 38 (S.i 38 - 1)) (RS.setI s 52 (s.i 52 - 1))
/-- a try between its blocks on top, or any other row -/
def JRX (A : JBA) (U : RS) (B : CS) (b : RS) (V : List RVW) (S : CS) (s : RS) : Prop := (∀ (r : RVW) (V' : List RVW), V = r :: V' → r.v = 305 → JR5 A U B b V' r S s) ∧ ((∀ (r : RVW) (V' : List RVW), V = r :: V' → ¬ r.v = 305) → JRW A U B b V S s)
section
variable {FC : Nat → Prop} {SF : CS} {U : RS} {nm : Nat → Nat → Prop} {X : Als} {ω : Nat} {j : JCT} {Z : Prop} {S : CS} {s : RS} {r r5 : RVW} {g : Nat × Nat × List (Int32 × Nat)} {m : Nat} {x : Int32}
set_option maxHeartbeats 1000000 in
theorem k5_of (k : KTY U r g S s FC SF nm X ω j Z) (ty : r.v = 213 ∨ r.v = 215) (h5 : r5.1 9 = r.1 9 ∧ r5.2.1 66 = r.2.1 66 ∧ r5.2.1 72 = r.2.1 72) (h6 : (r.1 6 = 1 → r5.1 6 = 1) ∧ (S.i 36 = 1 → r5.1 6 = 1)) (pq : PQX SF U (pcC S) (pcR s)) (c15 : SF.a 15 (pcC S) = 60) (c16 : SF.a 16 (pcC S) = r.1 9 * 32 + r.1 2) (cop : (r.v = 213 → U.a 21 (pcR s) = 33) ∧ (r.v = 215 → U.a 21 (pcR s) = 34)) (ct : (cTg SF (r.1 10)).toInt = ((pcC S + 1 : Nat) : Int)) (hm : r.v = 215 → g.2.2.length ≤ m ∧ ∀ z ∈ g.2.2, z.2 ≤ pcC S + 1) (tyc : TYC SF U (GU FC SF U nm X) (ω + j.t) j.c) (tl : j.t ≤ j.l) (hω : 1300 ≤ ω) (gx : r.v = 215 → ∀ z ∈ g.2.2, x = z.1) : K5 U r5 x (pcC S + 1) m FC SF nm X ω j Z := by
  intro hrow hfn hex h30
  obtain ⟨n, hn, hrw⟩ := hrow
  obtain ⟨⟨d2, d9, t3⟩, hci, hX⟩ := k
  have p12 := pq.1
  have et : ty5 r5 ω j = ty5 r ω j := by
    unfold ty5
    rw [h5.1, h5.2.1]
  have ek : khd U r5 = khd U r := by
    unfold khd
    rw [h5.2.1, h5.2.2]
  unfold K5E at hex
  rw [h5.1, h5.2.1] at hex
  rw [et, ek] at hrw
  rw [et] at hfn
  obtain ⟨W5, hW⟩ : ∃ W5 : Nat, W5 = ω + (j.l + 1265) - (pcC S + 1 + 2) := ⟨_, rfl⟩
  rw [← hW] at hrw hfn
  have jl : jlv r.v = 1265 := by rcases ty with z | z <;> rw [z] <;> rfl
  have o9 : (((r.1 9).toNatClampNeg : Nat) : Int) = (r.1 9).toInt := clampI (by have := t3.1; have := t3.2.1; omega)
  have hxt : ∀ e : Ent, e.h = j.h → e.x = (r.1 9).toNatClampNeg - 2 → e.y = (r.2.1 66).toNatClampNeg → e.u = ω + j.l → (∃ e0 ∈ jen (fun _ => g) ω r j.h j.l, e0 = e) → S.i 36 = 1 → XIF FC SF U (GU FC SF U nm X) (SF.a 16 (pcC S)) j.h W5 e j.c := fun e eh ex ey eu _ h1 => by
    obtain ⟨l5, l6⟩ := lv5 d9 (g := r.1 2) ⟨by omega, by
      have f22 := hci.2.2.1
      rw [frs.app] at f22
      omega⟩
    have q6 := h6.2 h1
    rw [c16]
    refine ⟨⟨by rw [l6]; exact d2, by rw [l5, ex]; have := t3.1; have := t3.2.1; omega⟩, fun z => ?_, fun z => ?_⟩
    · rw [ey] at z
      obtain ⟨p, q, y1, y2, y3⟩ := hex q6 (Or.inl z)
      exact ⟨p, q, _, by rw [l5]; exact y1, by rw [ey]; exact y2, y3, by omega⟩
    · rw [ey] at z
      obtain ⟨p, q, y1, y2, y3⟩ := hex q6 (Or.inr z)
      exact ⟨p, q, _, by rw [l5]; exact y1, by rw [ey]; exact y2, by rw [eh]; exact y3, by rw [eu]; omega⟩
  have hexr : r.1 6 = 1 → (U.a 31 (r.2.1 66).toNatClampNeg).toInt < 0 ∨ FC (r.2.1 66).toNatClampNeg → ∃ p q : Nat, (cTg SF (r.1 9)).toInt = (p : Int) ∧ (U.a 32 (r.2.1 66).toNatClampNeg).toInt = (q : Int) ∧ GU FC SF U nm X p q j.h (ω + j.l - p) 0 j.c := fun z y => hex (h6.1 z) y
  rcases ty with hv | hv
  · have en : jen (fun _ => g) ω r j.h j.l = [(1, j.h, (r.1 9).toNatClampNeg - 2, (r.2.1 66).toNatClampNeg, g.1, 0, ω + j.l)] := by
      unfold jen
      rw [hv, if_neg (by decide), if_pos rfl]
      rfl
    have k30 : khd U r = U.a 30 (r.2.1 66).toNatClampNeg := if_pos (t3.2.2.2.1 hv)
    rw [k30] at hrw
    obtain ⟨e, he⟩ : ∃ e : Ent, e = (1, j.h, (r.1 9).toNatClampNeg - 2, (r.2.1 66).toNatClampNeg, g.1, 0, ω + j.l) := ⟨_, rfl⟩
    rw [← he] at en
    have ek1 : e.k = 1 := by rw [he]; rfl
    have eh : e.h = j.h := by rw [he]; rfl
    have ex : e.x = (r.1 9).toNatClampNeg - 2 := by rw [he]; rfl
    have ey : e.y = (r.2.1 66).toNatClampNeg := by rw [he]; rfl
    have eu : e.u = ω + j.l := by rw [he]; rfl
    have hf : HFN SF U (GU FC SF U nm X) e j.c W5 := by rw [he]; exact hfn
    clear he
    have hb : HBD SF U (GU FC SF U nm X) e j.c W5 := ⟨n, pcC S + 1, by omega, fun a ha => by
      have z := t3.2.2.1 hv
      have : a = r.1 10 := Int32.toInt_inj.mp (by rw [ha, ex]; have := t3.1; have := t3.2.1; omega)
      rw [this]
      exact ct, by
      rw [ey]
      exact HRW.zz (e := ty5 r ω j) eh ex ey eu n _ _ hrw⟩
    refine hX ⟨fun e0 he0 => ?_, hexr, fun z => absurd (hv.symm.trans z) (by decide), fun z => absurd (hv.symm.trans z) (by decide), fun z => z.elim (fun z => absurd (hv.symm.trans z) (by decide)) (fun z => absurd (hv.symm.trans z) (by decide))⟩ (fun h1 => ?_)
    · rw [en] at he0
      rw [List.mem_singleton.mp he0, jl]
      obtain ⟨n', p', b1, b2, b3⟩ := hb
      exact ⟨fun _ => ⟨n', p', b1, b2, HRW.up (by omega) n' p' _ b3⟩, fun _ => hf.up (by omega)⟩
    · rw [en, jl]
      rw [en] at hci
      have zz : ∀ g' : Nat, GU FC SF U nm X (pcC S) (pcR s) j.h (ω + (j.l + 1265) - pcC S) g' ([e] ++ j.c) := fun g' => gi_VEnb (pq.hc hci) pq.2.1 ⟨c15, cop.1 hv, e, j.c, W5, W5, rfl, ek1, ⟨fun _ => hb, fun _ => hf, TYC.up (by omega) tyc⟩, Nat.le_refl _, by omega, hxt e eh ex ey eu ⟨e, by rw [en]; exact List.mem_singleton_self e, rfl⟩ h1⟩
      exact ⟨zz 0, zz 1⟩
  · have en : jen (fun _ => g) ω r j.h j.l = [(2, j.h, (r.1 9).toNatClampNeg - 2, (r.2.1 66).toNatClampNeg, g.1, g.2.1, ω + j.l)] := by
      unfold jen
      rw [hv, if_neg (by decide), if_neg (by decide), if_pos rfl]
      rfl
    have k37 : khd U r = U.a 37 (r.2.1 72).toNatClampNeg := if_neg (by have := t3.2.2.2.2 hv; omega)
    rw [k37] at hrw
    obtain ⟨e, he⟩ : ∃ e : Ent, e = (2, j.h, (r.1 9).toNatClampNeg - 2, (r.2.1 66).toNatClampNeg, g.1, g.2.1, ω + j.l) := ⟨_, rfl⟩
    rw [← he] at en
    have ek1 : e.k = 2 := by rw [he]; rfl
    have eh : e.h = j.h := by rw [he]; rfl
    have ex : e.x = (r.1 9).toNatClampNeg - 2 := by rw [he]; rfl
    have ey : e.y = (r.2.1 66).toNatClampNeg := by rw [he]; rfl
    have eu : e.u = ω + j.l := by rw [he]; rfl
    have hf : HFN SF U (GU FC SF U nm X) e j.c W5 := by rw [he]; exact hfn
    clear he
    have hm' := hm hv
    refine hX ⟨fun e0 he0 => ?_, hexr, fun _ e0 he0 => ?_, fun z => absurd (hv.symm.trans z) (by decide), fun _ z hz => ?_⟩ (fun h1 => ?_)
    · rw [en] at he0
      rw [List.mem_singleton.mp he0, jl]
      exact ⟨fun z => absurd (ek1.symm.trans z) (by decide), fun _ => hf.up (by omega)⟩
    · rw [en] at he0
      rw [List.mem_singleton.mp he0]
      exact ⟨n, pcC S + 1, ⟨show n + g.2.2.length ≤ 300 by have := hm'.1; omega, hm'.2⟩, ct, by rw [← hW]; exact HRW.zz (e := ty5 r ω j) eh ex ey eu n _ _ hrw, by rw [← hW]; exact hf⟩
    · rw [h5.2.1, h5.2.2] at h30
      rw [h30 (t3.2.2.2.2 hv)]
      exact gx hv z hz
    · rw [en, jl]
      rw [en] at hci
      have zz : ∀ g' : Nat, GU FC SF U nm X (pcC S) (pcR s) j.h (ω + (j.l + 1265) - pcC S) g' ([e] ++ j.c) := fun g' => gi_VEnc (pq.hc hci) pq.2.1 ⟨c15, cop.2 hv, e, j.c, W5, W5, rfl, ek1, hf, Nat.le_refl _, by omega, hxt e eh ex ey eu ⟨e, by rw [en]; exact List.mem_singleton_self e, rfl⟩ h1⟩
      exact ⟨zz 0, zz 1⟩
end
