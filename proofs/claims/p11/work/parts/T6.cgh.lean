/-! the class's reading: with a row as it was -/
noncomputable def wO (s : CS) (a : Nat) (g : Nat → Int32) (l : Int64) : CS := some (s.hs, s.i, s.l, s.a, s.b, s.r, s.w, s.L, s.k, va_up s.o a g, va_up s.ol a l, s.ot, s.oa)
theorem wO.o {s : CS} {a : Nat} {g : Nat → Int32} {l : Int64} : (wO s a g l).o = va_up s.o a g := rfl
theorem wO.ol {s : CS} {a : Nat} {g : Nat → Int32} {l : Int64} : (wO s a g l).ol = va_up s.ol a l := rfl
theorem ADV.wo {s R : CS} (h : ADV s R) (a : Nat) (g : Nat → Int32) (l : Int64) : ADV (wO s a g l) (wO R a g l) := by
  obtain ⟨⟨⟨b1, b2, b3, b4, b5, b6, b7, b8, b9, b10, b11⟩, b⟩, h2⟩ := h
  exact ⟨⟨⟨b1, b2, b3, by rw [wO.o, wO.o, b4], by rw [wO.ol, wO.ol, b5], b6, b7, b8, b9, b10, b11⟩, b⟩, h2⟩
theorem FLD.wo {s R : CS} (h : FLD s R) (a : Nat) (g : Nat → Int32) (l : Int64) : FLD (wO s a g l) (wO R a g l) := by
  obtain ⟨⟨b1, b2, b3, b4, b5, b6, b7, b8, b9, b10, b11, b12⟩, b⟩ := h
  exact ⟨⟨b1, b2, b3, by rw [wO.o, wO.o, b4], by rw [wO.ol, wO.ol, b5], b6, b7, b8, b9, b10, b11, b12⟩, b⟩
theorem ADD.wo {s R : CS} {o x : Int32} (h : ADD s R o x) (a : Nat) (g : Nat → Int32) (l : Int64) : ADD (wO s a g l) (wO R a g l) o x := by
  obtain ⟨⟨b1, b2, b3, b4, b5, b6, b7, b8, b9, b10⟩, b⟩ := h
  exact ⟨⟨b1, b2, b3, by rw [wO.o, wO.o, b4], by rw [wO.ol, wO.ol, b5], b6, b7, b8, b9, b10⟩, b⟩
theorem AIM.wo {s R : CS} {t : Int32} (h : AIM s R t) (a : Nat) (g : Nat → Int32) (l : Int64) : AIM (wO s a g l) (wO R a g l) t := by
  obtain ⟨⟨b1, b2, b3, b4, b5, b6, b7, b8, b9, b10⟩, b⟩ := h
  exact ⟨⟨b1, b2, b3, by rw [wO.o, wO.o, b4], by rw [wO.ol, wO.ol, b5], b6, b7, b8, b9, b10⟩, b⟩
theorem NTG.wo {s R : CS} (h : NTG s R) (a : Nat) (g : Nat → Int32) (l : Int64) : NTG (wO s a g l) (wO R a g l) := by
  obtain ⟨⟨b1, b2, b3, b4, b5, b6, b7, b8, b9, b10⟩, b⟩ := h
  exact ⟨⟨b1, b2, b3, by rw [wO.o, wO.o, b4], by rw [wO.ol, wO.ol, b5], b6, b7, b8, b9, b10⟩, b⟩
theorem IRR.wo {s R : CS} (h : IRR s R) (a : Nat) (g : Nat → Int32) (l : Int64) : IRR (wO s a g l) (wO R a g l) := by
  obtain ⟨⟨b1, b2, b3, b4, b5, b6, b7, b8, b9, b10⟩, b⟩ := h
  exact ⟨⟨b1, b2, b3, by rw [wO.o, wO.o, b4], by rw [wO.ol, wO.ol, b5], b6, b7, b8, b9, b10⟩, b⟩
theorem NAD.wo {s R : CS} {v : Int32} (h : NAD s R v) (a : Nat) (g : Nat → Int32) (l : Int64) : NAD (wO s a g l) (wO R a g l) v := by
  obtain ⟨⟨b1, b2, b3, b4, b5, b6, b7, b8, b9, b10⟩, b⟩ := h
  exact ⟨⟨b1, b2, b3, by rw [wO.o, wO.o, b4], by rw [wO.ol, wO.ol, b5], b6, b7, b8, b9, b10⟩, b⟩
theorem wO.set (s : CS) (a k : Nat) (v : Int32) (g : Nat → Int32) (l : Int64) : wO (CS.setO s a k v) a g l = wO s a g l := by
  have : va_up (va_up s.o a (upd (s.o a) k v)) a g = va_up s.o a g := by
    funext n
    show (if n = a then g else if n = a then upd (s.o a) k v else s.o n) = (if n = a then g else s.o n)
    by_cases q : n = a
    · rw [if_pos q, if_pos q]
    · rw [if_neg q, if_neg q, if_neg q]
  show some (s.hs, s.i, s.l, s.a, s.b, s.r, s.w, s.L, s.k, va_up (va_up s.o a (upd (s.o a) k v)) a g, va_up s.ol a l, s.ot, s.oa) = _
  rw [this]
  rfl
theorem va_self {α : Type} (f : Nat → α) (a : Nat) : va_up f a (f a) = f := by
  funext n
  show (if n = a then f a else f n) = f n
  by_cases q : n = a
  · rw [if_pos q, q]
  · rw [if_neg q]
/-- the state s, and the row a at m as it stood with g and l -/
def GHS (H : HB) (x y : Int) (cD c d : List Nat) (X : List (Nat × List Nat)) (P : List Nat) (lim : List Int) (σ : CS) (p e0 e : Int) (g : Nat → Int32) (l : Int64) (a m : Nat) (s : CS) : Prop := CBS H s ∧ (s.r 51 m = some a ∧ m < 400) ∧ JK H x y cD c d X P lim (wO s a g l) ∧ (s.i 32 = 0 → SX p e0 e σ (wO s a g l))
theorem GHS.w {H : HB} {x y x' y' : Int} {cD c d : List Nat} {X : List (Nat × List Nat)} {P : List Nat} {lim : List Int} {σ : CS} {p e0 e p' e0' : Int} {g : Nat → Int32} {l : Int64} {a m : Nat} {s : CS} (h : GHS H x y cD c d X P lim σ p e0 e g l a m s) (hx : x ≤ x') (hy : y ≤ y') (hp : p' ≤ p) (he : e0' ≤ e0) : GHS H x' y' cD c d X P lim σ p' e0' e g l a m s := ⟨h.1, h.2.1, h.2.2.1.w hx hy, fun z => (h.2.2.2 z).w hp he rfl⟩
theorem GHS.rf {H : HB} {x y : Int} {c : List Nat} {X : List (Nat × List Nat)} {P : List Nat} {lim : List Int} {σ : CS} {a m : Nat} (h : JJ H x y c X P lim σ) (ea : σ.r 51 m = some a) (m4 : m < 400) : GHS H x y c c c X P lim σ 0 0 0 (σ.o a) (σ.ol a) a m σ := by
  have ir : IRR σ (wO σ a (σ.o a) (σ.ol a)) := by
    refine ⟨⟨rfl, rfl, rfl, by rw [wO.o, va_self], by rw [wO.ol, va_self], rfl, rfl, rfl, rfl, rfl⟩, fun _ _ => rfl, fun _ _ => rfl, h.1.2.2.2.2.2.2.2.2.1, h.1.2.2.2.2.2.2.2.2.2.2⟩
  exact ⟨h.1, ⟨ea, m4⟩, h.k.irr ir, fun z => ir.sx z⟩
theorem GHS.set {H : HB} {x y : Int} {cD c d : List Nat} {X : List (Nat × List Nat)} {P : List Nat} {lim : List Int} {σ : CS} {p e0 e : Int} {g : Nat → Int32} {l : Int64} {a m : Nat} {s : CS} (h : GHS H x y cD c d X P lim σ p e0 e g l a m s) (k : Nat) (v : Int32) (hb : (5 ≤ k ∧ k ≤ 8) → bo v) (h3 : k ≠ 3) : GHS H x y cD c d X P lim σ p e0 e g l a m (CS.setO s a k v) := ⟨h.1.o a k v hb (fun z => absurd z h3), h.2.1, by rw [wO.set]; exact h.2.2.1, by rw [wO.set]; exact h.2.2.2⟩
theorem GHS.adv {H : HB} {x y x' y' : Int} {cD c d : List Nat} {X : List (Nat × List Nat)} {P : List Nat} {lim : List Int} {σ : CS} {p e0 e p' e0' : Int} {g : Nat → Int32} {l : Int64} {a m : Nat} {s R : CS} (h : GHS H x y cD c d X P lim σ p e0 e g l a m s) (ha : ADV s R) (hxy : s.i 32 = 0 → x + 100 * plI s ≤ x' + 100 * plI R ∧ y + eI s ≤ y' + eI R) (hpg : s.i 32 = 0 → plI s + p' ≤ plI R ∧ eI s + e0' ≤ eI R) : GHS H x' y' cD c d X P lim σ (p + p') (e0 + e0') e g l a m R := by
  obtain ⟨h1, ⟨h2, h3⟩, h4, h5⟩ := h
  have e32 := ha.f32
  refine ⟨ha.1.t9.cb h1 ha.2.1 (fun q => ha.2.2.2.2 (h1.2.2.2.2.1 (by rw [← e32]; exact q))) (fun q => e32.symm.trans q), ⟨by rw [ha.1.1.2.2.2.2.2.2.2.1]; exact h2, h3⟩, h4.adv (ha.wo a g l) hxy, fun z => ?_⟩
  have z1 := e32.symm.trans z
  exact ((h5 z1).tr ((ha.wo a g l).smr.sx z1 (hpg z1))).w (Int.le_refl _) (Int.le_refl _) (by omega)
theorem GHS.add {H : HB} {x y : Int} {cD c d c1 : List Nat} {X : List (Nat × List Nat)} {P : List Nat} {lim : List Int} {σ : CS} {p e0 e : Int} {g : Nat → Int32} {l : Int64} {a m : Nat} {s R : CS} {o v : Int32} (h : GHS H x y cD c d X P lim σ p e0 e g l a m s) (ha : ADD s R o v) (hx : x ≤ 10000) (hy : y ≤ 100) (hl : s.i 32 = 0 → cD.length ≤ 21) (hI : s.i 32 = 0 → ∀ (DT : Nat → List Nat) (KT : Nat → Prop), (∀ q ∈ X, (q.1 : Int) < tcI s ∧ DT q.1 = q.2 ∧ ¬ KT q.1) → IOK (tcI s) DT KT o v cD c1) : GHS H (x + 1) y c1 c d X P lim σ p e0 e g l a m R := by
  obtain ⟨h1, ⟨h2, h3⟩, h4, h5⟩ := h
  refine ⟨ha.cb h1, ⟨by rw [ha.1.2.2.2.2.2.2.1]; exact h2, h3⟩, h4.add (ha.wo a g l) hx hy hl (fun z DT KT z1 _ _ => hI z DT KT z1), fun z => ?_⟩
  have z1 := ha.f32.1.symm.trans z
  exact ((h5 z1).tr ((ha.wo a g l).sx z1)).w (by omega) (by omega) (by omega)
theorem GHS.aim {H : HB} {x y : Int} {cD c d : List Nat} {X : List (Nat × List Nat)} {P P' : List Nat} {lim : List Int} {σ : CS} {p e0 e : Int} {g : Nat → Int32} {l : Int64} {a m : Nat} {s R : CS} {t : Int32} (h : GHS H x y cD c d X P lim σ p e0 e g l a m s) (ha : AIM s R t) (hx : x ≤ 10000) (hy : y ≤ 100) (hT : s.i 32 = 0 → ∀ (DT : Nat → List Nat) (KT : Nat → Prop), (∀ q ∈ X, (q.1 : Int) < tcI s ∧ DT q.1 = q.2 ∧ ¬ KT q.1) → (∀ n : Nat, (n : Int) = cnI s → RCH (wO s a g l) DT KT n c lim) → 0 ≤ t.toInt ∧ t.toInt < tcI s ∧ DT t.toInt.toNat = cD) (hP : s.i 32 = 0 → ∀ k ∈ P, k ∈ P' ∨ (k : Int) = t.toInt) : GHS H x y cD c d X P' lim σ p e0 e g l a m R := by
  obtain ⟨h1, ⟨h2, h3⟩, h4, h5⟩ := h
  refine ⟨ha.cb h1 (fun q => (h4.2 q).1.tc0.2), ⟨by rw [ha.1.2.2.2.2.2.2.1]; exact h2, h3⟩, h4.aim (ha.wo a g l) hx hy hT hP, fun z => ?_⟩
  have z1 := ha.f.1.symm.trans z
  exact ((h5 z1).tr ((ha.wo a g l).sx z1)).w (by omega) (by omega) (by omega)
theorem GHS.new {H : HB} {x y : Int} {cD c d : List Nat} {X : List (Nat × List Nat)} {P : List Nat} {lim : List Int} {σ : CS} {p e0 e : Int} {g : Nat → Int32} {l : Int64} {a m : Nat} {s R : CS} (h : GHS H x y cD c d X P lim σ p e0 e g l a m s) (hr : NTG s R) (hx : x ≤ 10000) (hy : y ≤ 100) (t : List Nat) : GHS H x (y + 1) cD c d (((tcI s).toNat, t) :: X) ((tcI s).toNat :: P) lim σ p e0 e g l a m R := by
  obtain ⟨h1, ⟨h2, h3⟩, h4, h5⟩ := h
  refine ⟨hr.cb h1 (fun q => ⟨(h4.2 q).1.tc0.1, Int.le_trans ((h4.2 q).2.sz h4.1.2.2.1 h4.1.2.2.2.2.2.2.1.1 hx hy).2 (by omega)⟩), ⟨by rw [hr.1.2.2.2.2.2.2.1]; exact h2, h3⟩, h4.new (hr.wo a g l) hx hy t, fun z => ?_⟩
  have z1 := hr.f.1.symm.trans z
  exact ((h5 z1).tr ((hr.wo a g l).sx z1)).w (by omega) (by omega) (by omega)
theorem GHS.irr {H : HB} {x y : Int} {cD c d : List Nat} {X : List (Nat × List Nat)} {P : List Nat} {lim : List Int} {σ : CS} {p e0 e : Int} {g : Nat → Int32} {l : Int64} {a m : Nat} {s R : CS} (h : GHS H x y cD c d X P lim σ p e0 e g l a m s) (hi : IRR s R) : GHS H x y cD c d X P lim σ p e0 e g l a m R := by
  obtain ⟨h1, ⟨h2, h3⟩, h4, h5⟩ := h
  refine ⟨hi.cb h1, ⟨by rw [hi.1.2.2.2.2.2.2.1]; exact h2, h3⟩, h4.irr (hi.wo a g l), fun z => ?_⟩
  have z1 := hi.f.1.symm.trans z
  exact ((h5 z1).tr ((hi.wo a g l).sx z1)).w (by omega) (by omega) (by omega)
theorem GHS.nad {H : HB} {x y : Int} {cD c d : List Nat} {X : List (Nat × List Nat)} {P : List Nat} {lim : List Int} {σ : CS} {p e0 e : Int} {g : Nat → Int32} {l : Int64} {a m : Nat} {s R : CS} {v : Int32} (h : GHS H x y cD c d X P lim σ p e0 e g l a m s) (hn : NAD s R v) (hv : s.i 32 = 0 → NMT v c) : GHS H x y cD c d X P lim σ p e0 e g l a m R := by
  obtain ⟨h1, ⟨h2, h3⟩, h4, h5⟩ := h
  refine ⟨hn.cb h1, ⟨by rw [hn.1.2.2.2.2.2.2.1]; exact h2, h3⟩, h4.nad (hn.wo a g l) hv, fun z => ?_⟩
  have z1 := hn.f.1.symm.trans z
  exact ((h5 z1).tr ((hn.wo a g l).sx z1)).w (by omega) (by omega) (by omega)
theorem GHS.flt {H : HB} {x y : Int} {cD c d : List Nat} {X : List (Nat × List Nat)} {P : List Nat} {lim : List Int} {σ : CS} {p e0 e : Int} {g : Nat → Int32} {l : Int64} {a m : Nat} {s R : CS} (h1 : CBS H s) (hg : CBS H (wO s a g l)) (h2 : s.r 51 m = some a ∧ m < 400) (hf : FLD s R) : GHS H x y cD c d X P lim σ p e0 e g l a m R := ⟨hf.t9.cb h1 hf.2.2.1 (fun _ => hf.2.2.2.2) (fun q => absurd q hf.2.2.2.1), ⟨by rw [hf.1.2.2.2.2.2.2.2.1]; exact h2.1, h2.2⟩, JK.flt hg (hf.wo a g l), fun z => absurd z hf.2.2.2.1⟩
theorem GHS.op {H : HB} {x y : Int} {cD c d : List Nat} {X : List (Nat × List Nat)} {P : List Nat} {lim : List Int} {σ : CS} {p e0 e : Int} {g : Nat → Int32} {l : Int64} {a m : Nat} {s R : CS} {v : Int32} (h : GHS H x y cD c d X P lim σ p e0 e g l a m s) (hv : ¬ v = 0) (ho : FLD s R ∨ (s.i 43 = v ∧ s.i 34 < 20 ∧ ADV (CS.setI s 34 (s.i 34 + 1)) R)) : GHS H (x - 100) y cD c d X P lim σ (p + 1) e0 (e + 1) g l a m R := by
  have ho' : FLD (wO s a g l) (wO R a g l) ∨ ((wO s a g l).i 43 = v ∧ (wO s a g l).i 34 < 20 ∧ ADV (CS.setI (wO s a g l) 34 ((wO s a g l).i 34 + 1)) (wO R a g l)) := by
    rcases ho with q | ⟨q1, q2, q3⟩
    · exact Or.inl (q.wo a g l)
    · exact Or.inr ⟨q1, q2, q3.wo a g l⟩
  obtain ⟨h1, ⟨h2, h3⟩, h4, h5⟩ := h
  obtain ⟨j, mv⟩ := h4.op hv ho'
  have cr : CBS H R ∧ R.r = s.r := by
    rcases ho with q | ⟨q1, q2, q3⟩
    · exact ⟨q.t9.cb h1 q.2.2.1 (fun _ => q.2.2.2.2) (fun z => absurd z q.2.2.2.1), q.1.2.2.2.2.2.2.2.1⟩
    · have c1 := h1.s34 (s.i 34 + 1)
      have e32 := q3.f32
      exact ⟨q3.1.t9.cb c1 q3.2.1 (fun z => q3.2.2.2.2 (c1.2.2.2.2.1 (by rw [← e32]; exact z))) (fun z => e32.symm.trans z), q3.1.1.2.2.2.2.2.2.2.1⟩
  refine ⟨cr.1, ⟨by rw [cr.2]; exact h2, h3⟩, j, fun z => ?_⟩
  have w := mv z
  exact ((h5 w.1).tr w.sx).w (by omega) (by omega) (by omega)
theorem GHS.cl {N : Nat} {H : HB} (hN : 1000 ≤ N) {x y : Int} {cD c d : List Nat} {X : List (Nat × List Nat)} {P : List Nat} {lim : List Int} {σ : CS} {p e0 e : Int} {g : Nat → Int32} {l : Int64} {a m : Nat} {s : CS} (h : GHS H x y cD c d X P lim σ p e0 e g l a m s) (v : Int32) (hv : ¬ v = 0) (hs : SGS σ (cnI σ).toNat ≤ sgI σ ∧ 0 ≤ sgI σ ∧ NR σ (cnI σ).toNat) (he : 1 ≤ e) : ok (f_X1_close N s v) (fun R => GHS H (x - 100) y cD c d X P lim σ (p + 1) e0 (e - 1) g l a m R.2 ∧ R.2.o = s.o ∧ R.2.ol = s.ol) := by
  obtain ⟨h1, ⟨h2, h3⟩, h4, h5⟩ := h
  unfold f_X1_close f_X1_close_22
  refine ok_bind (q_found s v) (fun q hq => ?_)
  obtain ⟨q1, q2⟩ := hq
  rw [q1]
  have fin : ∀ (V : CS) (p1 : Int), p + 1 ≤ p1 ∨ ¬ V.i 32 = 0 → GHS H (x - 100) y cD c d X P lim σ p1 e0 e g l a m V → (V.o = s.o ∧ V.ol = s.ol) → ok (some ((), CS.setI V 34 ((V.i 34) - 1))) (fun R => GHS H (x - 100) y cD c d X P lim σ (p + 1) e0 (e - 1) g l a m R.2 ∧ R.2.o = s.o ∧ R.2.ol = s.ol) := fun V p1 hp1 hV hVo => by
    obtain ⟨k1, ⟨k2, k3⟩, k4, k5⟩ := hV
    have d := k4.dn (fun z => by
      have sx := k5 z
      have ecn : cnI (wO V a g l) = cnI σ := by unfold cnI; rw [sx.2.2.2.1.2.1]
      have i2 := (sx.2.2.2.2.2.1.sums hs.2.2).2.1
      rw [ecn, i2, sx.2.2.1]
      have := hs.1
      have := hs.2.1
      omega)
    refine ok_some ⟨⟨k1.s34 _, ⟨k2, k3⟩, d.1, fun z => ?_⟩, hVo⟩
    have z1 : V.i 32 = 0 := (ci_ne _ _ _ (by decide)).symm.trans z
    obtain ⟨d1, d2, d3, d4, d5⟩ := d.2 z
    have pp : p + 1 ≤ p1 := by
      rcases hp1 with w | w
      · exact w
      · exact absurd z1 w
    exact ((k5 z1).tr (d5.sx (p := 0) (g := 0) (d := -1) z1 (by omega) (by rw [d4]; omega))).w (by omega) (by omega) (by omega)
  rcases q2 with ⟨q2, q3⟩ | ⟨q2, q3⟩
  · rw [if_pos q2]
    exact ok_bind (q_misp h1) (fun r hr => fin r.2 p (Or.inr hr.2.2.2.1) (GHS.flt h1 h4.1 ⟨h2, h3⟩ hr) ⟨hr.1.2.2.2.1, hr.1.2.2.2.2.1⟩)
  · rw [q2, if_neg (by decide)]
    refine ok_bind (q_advC hN h1) (fun r hr => ?_)
    have tk := hr.tk1 h1.2.2.1 (by rw [q3]; exact hv)
    refine fin r.2 (p + 1) (Or.inl (Int.le_refl _)) ?_ ⟨hr.1.1.2.2.2.1, hr.1.1.2.2.2.2.1⟩
    exact (GHS.adv (p' := 1) (e0' := 0) ⟨h1, ⟨h2, h3⟩, h4, h5⟩ hr (fun _ => by omega) (fun _ => by omega)).w (Int.le_refl _) (Int.le_refl _) (Int.le_refl _) (by omega)
