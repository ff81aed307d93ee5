/-! places that belong together, as the greatest set of them -/
def SUB (A B : Als) : Prop := ∀ (p q h w g : Nat) (c : List Ent), A p q h w g c → B p q h w g c
def UN2 (A B : Als) : Als := fun p q h w g c => A p q h w g c ∨ B p q h w g c
theorem NXW.mn {A B : Als} {p q h w w2 n g : Nat} {c : List Ent} (s : SUB A B) (l : w ≤ w2) : NXW A p q h w n g c → NXW B p q h w2 n g c := fun ⟨w', a, b⟩ => ⟨w', by omega, s _ _ _ _ _ _ b⟩
theorem JX.mn {s0 : CS} {A B : Als} {t x : Int32} {h w w2 n g : Nat} {c : List Ent} (s : SUB A B) (l : w ≤ w2) : JX s0 A t x h w n g c → JX s0 B t x h w2 n g c := fun ⟨p, q, w', a, b, d⟩ => ⟨p, q, w', a, by omega, s _ _ _ _ _ _ d⟩
theorem HRW.mn {s0 : CS} {r0 : RS} {A B : Als} {e : Ent} {c : List Ent} {W : Nat} (s : SUB A B) : ∀ (n p : Nat) (k : Int32), HRW s0 r0 A e c W n p k → HRW s0 r0 B e c W n p k := by
  intro n
  induction n with
  | zero => intro _ _ h; exact h
  | succ n ih =>
    intro p k h
    obtain ⟨h0, h⟩ := h
    refine ⟨h0, ?_⟩
    rcases h with h | ⟨h1, j, pb, qb, z, l, w, a2, a3, a4, a5, a6, ⟨a7, a8⟩, a9⟩ | ⟨h1, p', h2, h3⟩
    · exact Or.inl h
    · exact Or.inr (Or.inl ⟨h1, j, pb, qb, z, l, w, a2, a3, a4, a5, a6, ⟨s _ _ _ _ _ _ a7, a8⟩, ih _ _ a9⟩)
    · exact Or.inr (Or.inr ⟨h1, p', h2, ih _ _ h3⟩)
theorem HBD.mn {s0 : CS} {r0 : RS} {A B : Als} {e : Ent} {c : List Ent} {W : Nat} (s : SUB A B) : HBD s0 r0 A e c W → HBD s0 r0 B e c W := fun ⟨n, p, a, b, d⟩ => ⟨n, p, a, b, HRW.mn s n p _ d⟩
theorem HFN.mn {s0 : CS} {r0 : RS} {A B : Als} {e : Ent} {c : List Ent} {W : Nat} (s : SUB A B) : HFN s0 r0 A e c W → HFN s0 r0 B e c W := by
  rintro (h | ⟨p, q, w, a, b, d, f, g⟩)
  · exact Or.inl h
  · exact Or.inr ⟨p, q, w, a, b, d, s _ _ _ _ _ _ f, g⟩
theorem TYC.mn {s0 : CS} {r0 : RS} {A B : Als} {W : Nat} (s : SUB A B) : ∀ {c : List Ent}, TYC s0 r0 A W c → TYC s0 r0 B W c
  | [], h => ⟨fun z p q h' w g c hg => s _ _ _ _ _ _ (h.1 z p q h' w g c hg), h.2⟩
  | _ :: _, ⟨h1, h2, h3⟩ => ⟨fun z => (h1 z).mn s, fun z => (h2 z).mn s, TYC.mn s h3⟩
/-! jumps, said of tries whose finally can end -/
def FCB (FC : Nat → Prop) (r : RS) (c : List Ent) : Prop := ∀ e ∈ c, e.k = 1 ∨ e.k = 2 → 0 ≤ (r.a 31 e.y).toInt → FC e.y
def GF1 (FC : Nat → Prop) (s : CS) (r : RS) (AL : Als) (c : List Ent) (h : Nat) (T x d : Int32) (u : Nat) : Prop := ∃ (c1 c0 : List Ent), c = c1 ++ c0 ∧ ((T - T / 32 * 32).toInt = (frs c0 : Int) ∧ d.toInt = (c0.length : Int)) ∧ HTS c1 h ∧ (FCB FC r c1 → ∃ p q w : Nat, ((cTg s (T / 32)).toInt = (p : Int) ∧ x.toInt = (q : Int)) ∧ AL p q h w 0 c0 ∧ w ≤ u ∧ UTS c1 w)
def GF2 (FC : Nat → Prop) (s : CS) (r : RS) (AL : Als) (c : List Ent) (h : Nat) (T d : Int32) (u : Nat) : Prop := ∃ (c1 : List Ent) (a : Ent) (c0 : List Ent), c = c1 ++ a :: c0 ∧ (a.k = 5 ∧ a.h = h ∧ h < 600) ∧ ((T - T / 32 * 32).toInt = (frs c0 : Int) ∧ d.toInt = (c0.length : Int) + 1) ∧ HTS c1 h ∧ (FCB FC r c1 → ∃ p q w : Nat, ((cTg s (T / 32)).toInt = (p : Int) ∧ (r.a 23 a.x).toInt = (q : Int)) ∧ AL p q (h + 1) w 0 c0 ∧ w ≤ u ∧ UTS c1 w)
theorem GF1.mn {FC : Nat → Prop} {s0 : CS} {r0 : RS} {A B : Als} {c : List Ent} {h u : Nat} {T x d : Int32} (s : SUB A B) : GF1 FC s0 r0 A c h T x d u → GF1 FC s0 r0 B c h T x d u := fun ⟨c1, c0, a, b, e, f⟩ => ⟨c1, c0, a, b, e, fun z => by
  obtain ⟨p, q, w, g1, g2, g3⟩ := f z
  exact ⟨p, q, w, g1, s _ _ _ _ _ _ g2, g3⟩⟩
theorem GF2.mn {FC : Nat → Prop} {s0 : CS} {r0 : RS} {A B : Als} {c : List Ent} {h u : Nat} {T d : Int32} (s : SUB A B) : GF2 FC s0 r0 A c h T d u → GF2 FC s0 r0 B c h T d u := fun ⟨c1, a', c0, a, a2, b, e, f⟩ => ⟨c1, a', c0, a, a2, b, e, fun z => by
  obtain ⟨p, q, w, g1, g2, g3⟩ := f z
  exact ⟨p, q, w, g1, s _ _ _ _ _ _ g2, g3⟩⟩
theorem GF1.to {FC : Nat → Prop} {s0 : CS} {r0 : RS} {A : Als} {c : List Ent} {h u : Nat} {T x d : Int32} (fc : ∀ y : Nat, FCP r0 A y → FC y) : GF1 FC s0 r0 A c h T x d u → GL1 s0 r0 A c h T x d u := fun ⟨c1, c0, a, b, e, f⟩ => ⟨c1, c0, a, b, e, fun z => f (fun e' he hk h0 => fc _ (z e' he hk h0))⟩
theorem GF2.to {FC : Nat → Prop} {s0 : CS} {r0 : RS} {A : Als} {c : List Ent} {h u : Nat} {T d : Int32} (fc : ∀ y : Nat, FCP r0 A y → FC y) : GF2 FC s0 r0 A c h T d u → GL2 s0 r0 A c h T d u := fun ⟨c1, a', c0, a, a2, b, e, f⟩ => ⟨c1, a', c0, a, a2, b, e, fun z => f (fun e' he hk h0 => fc _ (z e' he hk h0))⟩
def XIF (FC : Nat → Prop) (s0 : CS) (r0 : RS) (AL : Als) (T : Int32) (h w : Nat) (e : Ent) (c : List Ent) : Prop := ((T - T / 32 * 32).toInt = (frs c : Int) ∧ (T / 32).toInt = (e.x : Int) + 2) ∧ ((r0.a 31 e.y).toInt < 0 → ∃ p q w' : Nat, (cTg s0 (T / 32)).toInt = (p : Int) ∧ (r0.a 32 e.y).toInt = (q : Int) ∧ AL p q h w' 0 c ∧ w' ≤ w) ∧ (FC e.y → ∃ p q w' : Nat, (cTg s0 (T / 32)).toInt = (p : Int) ∧ (r0.a 32 e.y).toInt = (q : Int) ∧ AL p q e.h w' 0 c ∧ w' ≤ e.u)
theorem XIF.mn {FC : Nat → Prop} {s0 : CS} {r0 : RS} {A B : Als} {T : Int32} {h w : Nat} {e : Ent} {c : List Ent} (s : SUB A B) : XIF FC s0 r0 A T h w e c → XIF FC s0 r0 B T h w e c := fun ⟨a, b, d⟩ => ⟨a, fun z => by
  obtain ⟨p, q, w', g1, g2, g3, g4⟩ := b z
  exact ⟨p, q, w', g1, g2, s _ _ _ _ _ _ g3, g4⟩, fun z => by
  obtain ⟨p, q, w', g1, g2, g3, g4⟩ := d z
  exact ⟨p, q, w', g1, g2, s _ _ _ _ _ _ g3, g4⟩⟩
theorem XIF.to {FC : Nat → Prop} {s0 : CS} {r0 : RS} {A : Als} {T : Int32} {h w : Nat} {e : Ent} {c : List Ent} (fc : ∀ y : Nat, FCP r0 A y → FC y) : XIF FC s0 r0 A T h w e c → XIT s0 r0 A T h w e c := fun ⟨a, b, d⟩ => ⟨a, b, fun z => d (fc _ z)⟩
def VRet (FC : Nat → Prop) (s0 : CS) (r0 : RS) (AL : Als) (p q h w : Nat) (c : List Ent) : Prop := ∃ h' u : Nat, h = h' + 1 ∧ u + 2 ≤ w ∧ (∀ e ∈ c, e.h ≤ h') ∧ TYC s0 r0 AL u c ∧ ((s0.a 15 p = 62 ∧ r0.a 21 q = 17) ∨ (s0.a 15 p = 61 ∧ r0.a 21 q = 18 ∧ GF2 FC s0 r0 AL c h' (s0.a 16 p) (r0.a 23 q) u))
def VGo (FC : Nat → Prop) (s0 : CS) (r0 : RS) (AL : Als) (p q h w : Nat) (c : List Ent) : Prop := s0.a 15 p = 60 ∧ r0.a 21 q = 36 ∧ ∃ u : Nat, u + 2 ≤ w ∧ TYC s0 r0 AL u c ∧ GF1 FC s0 r0 AL c h (s0.a 16 p) (r0.a 22 q) (r0.a 23 q) u
def VEnc (FC : Nat → Prop) (s0 : CS) (r0 : RS) (AL : Als) (p q h w : Nat) (c : List Ent) : Prop := s0.a 15 p = 60 ∧ r0.a 21 q = 34 ∧ ∃ (a : Ent) (c0 : List Ent) (u wg : Nat), c = a :: c0 ∧ a.k = 2 ∧ HFN s0 r0 AL a c0 u ∧ u ≤ wg ∧ wg + 3 ≤ w ∧ XIF FC s0 r0 AL (s0.a 16 p) h wg a c0
def VEnb (FC : Nat → Prop) (s0 : CS) (r0 : RS) (AL : Als) (p q h w : Nat) (c : List Ent) : Prop := s0.a 15 p = 60 ∧ r0.a 21 q = 33 ∧ ∃ (a : Ent) (c0 : List Ent) (u wg : Nat), c = a :: c0 ∧ a.k = 1 ∧ TYC s0 r0 AL u c ∧ u ≤ wg ∧ wg + 3 ≤ w ∧ XIF FC s0 r0 AL (s0.a 16 p) h wg a c0
def VEnf (FC : Nat → Prop) (s0 : CS) (r0 : RS) (AL : Als) (p q h w : Nat) (c : List Ent) : Prop := s0.a 15 p = 59 ∧ r0.a 21 q = 35 ∧ 1 ≤ w ∧ ∃ (a : Ent) (c0 : List Ent), c = a :: c0 ∧ a.k = 3 ∧ a.h = h ∧ a.u ≤ w + 1150 ∧ (r0.a 32 a.y).toInt = ((q + 1 : Nat) : Int) ∧ TYC s0 r0 AL a.u c0 ∧ FC a.y
/-! more places, more to spend: the units stay -/
section
variable {FC : Nat → Prop} {s0 : CS} {r0 : RS} {nm : Nat → Nat → Prop} {A B : Als} {p q h w w2 g : Nat} {c : List Ent}
theorem UEnd.mn (l : w ≤ w2) : UEnd s0 p q w r0 → UEnd s0 p q w2 r0 := fun ⟨a, b, d⟩ => ⟨a, b, by omega⟩
theorem UPush.mn (s : SUB A B) (l : w ≤ w2) : UPush s0 r0 A p q h w c → UPush s0 r0 B p q h w2 c := fun ⟨a, b, d, e, g', f, i⟩ => ⟨a, b, d, e, g', f.mn s l, i⟩
theorem ULoad.mn (s : SUB A B) (l : w ≤ w2) : ULoad s0 r0 nm A p q h w c → ULoad s0 r0 nm B p q h w2 c := fun ⟨a, b, d, e, f⟩ => ⟨a, b, d, e, f.mn s l⟩
theorem UStor.mn (s : SUB A B) (l : w ≤ w2) : UStor s0 r0 nm A p q h w c → UStor s0 r0 nm B p q h w2 c := by
  rintro ⟨a, ⟨b, d, h', e, f⟩ | ⟨b, d, f⟩⟩
  · exact ⟨a, Or.inl ⟨b, d, h', e, f.mn s l⟩⟩
  · exact ⟨a, Or.inr ⟨b, d, f.mn s l⟩⟩
theorem UNeg.mn (s : SUB A B) (l : w ≤ w2) : UNeg s0 r0 A p q h w g c → UNeg s0 r0 B p q h w2 g c := fun ⟨a, b, g', f, i⟩ => ⟨a, b, g', f.mn s l, i⟩
theorem UAri.mn (s : SUB A B) (l : w ≤ w2) : UAri s0 r0 A p q h w c → UAri s0 r0 B p q h w2 c := fun ⟨a, h', g', b, f, i⟩ => ⟨a, h', g', b, f.mn s l, i⟩
theorem UCau.mn (s : SUB A B) (l : w ≤ w2) : UCau s0 r0 A p q h w c → UCau s0 r0 B p q h w2 c := fun ⟨a, b, d, e, f⟩ => ⟨a, b, d, e, f.mn s l⟩
theorem UKep.mn (s : SUB A B) (l : w ≤ w2) : UKep s0 r0 A p q h w g c → UKep s0 r0 B p q h w2 g c := fun ⟨a, h', g', b, d, e, f⟩ => ⟨a, h', g', b, d.mn s l, e.mn s l, f⟩
theorem URkp.mn (s : SUB A B) (l : w ≤ w2) : URkp r0 A p q h w g c → URkp r0 B p q h w2 g c := fun ⟨a, h', q', w', g', b, d, e, f, i⟩ => ⟨a, h', q', w', g', b, d, s _ _ _ _ _ _ e, by omega, i⟩
theorem UCgo.mn (s : SUB A B) (l : w ≤ w2) : UCgo s0 A p q h w c → UCgo s0 B p q h w2 c := fun ⟨a, p', w', b, d, e⟩ => ⟨a, p', w', b, by omega, s _ _ _ _ _ _ e⟩
theorem UJmp.mn (s : SUB A B) (l : w ≤ w2) : UJmp s0 r0 A p q h w c → UJmp s0 r0 B p q h w2 c := fun ⟨a, b, d⟩ => ⟨a, b, d.mn s l⟩
theorem UJz.mn (s : SUB A B) (l : w ≤ w2) : UJz s0 r0 A p q h w g c → UJz s0 r0 B p q h w2 g c := fun ⟨a, b, h', d, e, f⟩ => ⟨a, b, h', d, e.elim Or.inl (fun e => Or.inr (e.mn s l)), f.mn s l⟩
theorem UOut.mn (s : SUB A B) (l : w ≤ w2) : UOut s0 r0 A p q h w c → UOut s0 r0 B p q h w2 c := fun ⟨a, b, h', d, e⟩ => ⟨a, b, h', d, e.mn s l⟩
theorem UJnf.mn (s : SUB A B) (l : w ≤ w2) : UJnf s0 r0 A p q h w g c → UJnf s0 r0 B p q h w2 g c := fun ⟨a, b, h', d, e, f⟩ => ⟨a, b, h', d, e.mn s l, f.mn s l⟩
theorem UJnb.mn (s : SUB A B) (l : w ≤ w2) : UJnb s0 r0 A p q h w g c → UJnb s0 r0 B p q h w2 g c := fun ⟨a, h', d, e, f⟩ => ⟨a, h', d, e.mn s l, f.elim Or.inl (fun ⟨p', w', f, i, j⟩ => Or.inr ⟨p', w', f, by omega, s _ _ _ _ _ _ j⟩)⟩
theorem UAsr.mn (s : SUB A B) (l : w ≤ w2) : UAsr s0 r0 A p q h w c → UAsr s0 r0 B p q h w2 c := fun ⟨a, b, d, e⟩ => ⟨a, b, d.mn s l, e.mn s l⟩
theorem VRet.mn (s : SUB A B) (l : w ≤ w2) : VRet FC s0 r0 A p q h w c → VRet FC s0 r0 B p q h w2 c := by
  rintro ⟨h', u, a, b, d, e, f | ⟨f1, f2, f3⟩⟩
  · exact ⟨h', u, a, by omega, d, e.mn s, Or.inl f⟩
  · exact ⟨h', u, a, by omega, d, e.mn s, Or.inr ⟨f1, f2, f3.mn s⟩⟩
theorem VGo.mn (s : SUB A B) (l : w ≤ w2) : VGo FC s0 r0 A p q h w c → VGo FC s0 r0 B p q h w2 c := fun ⟨a, b, u, d, e, f⟩ => ⟨a, b, u, by omega, e.mn s, f.mn s⟩
theorem URai.mn (s : SUB A B) (l : w ≤ w2) : URai s0 r0 A p q h w c → URai s0 r0 B p q h w2 c := fun ⟨h', u, a, b, d, e, f⟩ => ⟨h', u, a, by omega, d, e.mn s, f⟩
theorem URa0.mn (s : SUB A B) (l : w ≤ w2) : URa0 s0 r0 A p q h w c → URa0 s0 r0 B p q h w2 c := fun ⟨u, b, d, e, f⟩ => ⟨u, by omega, d, e.mn s, f⟩
theorem UDiv.mn (s : SUB A B) (l : w ≤ w2) : UDiv s0 r0 A p q h w c → UDiv s0 r0 B p q h w2 c := fun ⟨h', u, a, b, d, e, f, i⟩ => ⟨h', u, a, by omega, d, e.mn s, f, i.mn s l⟩
theorem UStp.mn (s : SUB A B) (l : w ≤ w2) : UStp s0 r0 A p q h w c → UStp s0 r0 B p q h w2 c := fun ⟨a, b, d, w', e, f⟩ => ⟨a, b, by omega, w', by omega, s _ _ _ _ _ _ f⟩
theorem UFor.mn (s : SUB A B) (l : w ≤ w2) : UFor s0 r0 A p q h w c → UFor s0 r0 B p q h w2 c := fun ⟨a, b, d⟩ => ⟨a, b, d.mn s l⟩
theorem UAga.mn (s : SUB A B) (l : w ≤ w2) : UAga s0 r0 A p q h w c → UAga s0 r0 B p q h w2 c := fun ⟨a, b, u, d, e, f⟩ => ⟨a, b, u, by omega, e.mn s, f⟩
theorem UTak.mn (s : SUB A B) (l : w ≤ w2) : UTak s0 r0 A p q h w g c → UTak s0 r0 B p q h w2 g c := fun ⟨a, b, d, e, f, i⟩ => ⟨a, b, d, e, f, i.mn s l⟩
theorem UTry.mn (s : SUB A B) (l : w ≤ w2) : UTry s0 r0 A p q h w g c → UTry s0 r0 B p q h w2 g c := fun ⟨a, b, d, e, ex, ey, u, f, i, j⟩ => ⟨a, b, d, e, ex, ey, u, f, i, j.mn s l⟩
theorem UOpe.mn (s : SUB A B) (l : w ≤ w2) : UOpe s0 r0 A p q h w c → UOpe s0 r0 B p q h w2 c := fun ⟨a, b, d, u, e, c0, f, i, j, k, m⟩ => ⟨a, b, d, u, e, c0, by omega, i.mn s, j, k, m.mn s l⟩
theorem VEnc.mn (s : SUB A B) (l : w ≤ w2) : VEnc FC s0 r0 A p q h w c → VEnc FC s0 r0 B p q h w2 c := fun ⟨a, b, e, c0, u, wg, f, i, j, k, m, n⟩ => ⟨a, b, e, c0, u, wg, f, i, j.mn s, k, by omega, n.mn s⟩
theorem VEnb.mn (s : SUB A B) (l : w ≤ w2) : VEnb FC s0 r0 A p q h w c → VEnb FC s0 r0 B p q h w2 c := fun ⟨a, b, e, c0, u, wg, f, i, j, k, m, n⟩ => ⟨a, b, e, c0, u, wg, f, i, j.mn s, k, by omega, n.mn s⟩
theorem VEnf.mn (s : SUB A B) (l : w ≤ w2) : VEnf FC s0 r0 A p q h w c → VEnf FC s0 r0 B p q h w2 c := fun ⟨a, b, d, e, c0, f, i, j, k, m, n, o⟩ => ⟨a, b, by omega, e, c0, f, i, j, by omega, m, n.mn s, o⟩
theorem URel.mn (s : SUB A B) (l : w ≤ w2) : URel s0 r0 A p q w h c → URel s0 r0 B p q w2 h c := fun ⟨a, b, e, c0, p', w', f, i, j, k, m, n⟩ => ⟨a, b, e, c0, p', w', f, i, j, k, s _ _ _ _ _ _ m, by omega⟩
theorem UAre.mn (s : SUB A B) (l : w ≤ w2) : UAre s0 r0 A p q h w c → UAre s0 r0 B p q h w2 c := fun ⟨a, b, e, c0, f, i, j⟩ => ⟨a, b, e, c0, f, i, j.mn s l⟩
theorem URwp.mn (s : SUB A B) (l : w ≤ w2) : URwp r0 A p q h w c → URwp r0 B p q h w2 c := fun ⟨a, e, c0, w', f, i, j, k⟩ => ⟨a, e, c0, w', f, i, s _ _ _ _ _ _ j, by omega⟩
theorem UGo3.mn (s : SUB A B) (l : w ≤ w2) : UGo3 s0 r0 A p q h w c → UGo3 s0 r0 B p q h w2 c := fun ⟨a, b, c1, c0, f, i, j, k⟩ => ⟨a, b, c1, c0, f, i, j, k.mn s l⟩
theorem URow.mn (s : SUB A B) (l : w ≤ w2) : URow s0 r0 A p q h w c → URow s0 r0 B p q h w2 c := fun ⟨a, cnt, b, h', d, e, f⟩ => ⟨a, cnt, b, h', d, e, f.mn s l⟩
theorem URwn.mn (s : SUB A B) (l : w ≤ w2) : URwn s0 r0 nm A p q h w c → URwn s0 r0 nm B p q h w2 c := fun ⟨a, b, e, c0, k0, l0, w', f, i, j, k, m, n⟩ => ⟨a, ⟨by omega, b.2⟩, e, c0, k0, l0, w', f, i, j, k.mn s l, by omega, s _ _ _ _ _ _ n⟩
theorem CHO.mn {d n : Nat} {L : List Nat} (s : SUB A B) (l : w ≤ w2) : CHO s0 r0 A q h w d n L c → CHO s0 r0 B q h w2 d n L c := fun ⟨a, b, e, f⟩ => ⟨a, b, fun k hk z i hi y => (e k hk z i hi y).mn s l, fun k hk z => (f k hk z).mn s l⟩
theorem UCho.mn (s : SUB A B) (l : w ≤ w2) : UCho s0 r0 A p q h w c → UCho s0 r0 B p q h w2 c := by
  rintro ⟨a, d, n, h', L, b, e, f, i, j, ⟨k1, k2, k3⟩ | ⟨k1, k2⟩⟩
  · exact ⟨a, d, n, h', L, b, e, f, i, by omega, Or.inl ⟨k1, k2.mn s l, fun z => (k3 z).mn s l⟩⟩
  · exact ⟨a, d, n, h', L, b, e, f, i, by omega, Or.inr ⟨k1, k2.mn s l⟩⟩
end
