/-! both readers: a statement that begins with a name -/
theorem XO.don2 {d : Int32} {t : Nat} {S R : CS} {s u : RS} (x : XO d t S s R u) (h75 : u.i 75 = R.i 36 ∧ (R.i 36 = 0 ∨ R.i 36 = 1)) : DON d t S s R u := by
  obtain ⟨w1, w2, w3, w4, w5, w6, w7, w8, w9⟩ := x
  obtain ⟨⟨t1, t2, t3, t4, t5, t6, t7, t8, t9, t10⟩, tr⟩ := w4.1
  obtain ⟨⟨a1, -, a3, a4, a5, a6⟩, b1, b2, b3, b4, b5, b6, b7, b8⟩ := w5
  exact ⟨w1, w2, w3, tr, w4.2, ⟨t1, t2, t3, t5, t6, t7, t8, t9, t10⟩, ⟨a1, b1, b2, b3, b4, b5, b6, b7⟩, ⟨a3, a5, a6⟩, b8, ⟨w6, w7, w8, w9⟩, h75, fun q => by rw [t4]; omega, by rw [t4]; exact Int.le_refl _⟩
theorem DON.dn {d : Int32} {B : CS} {b : RS} {t0 T : Nat} {L : List CEL} {x p f k y z : Int} {S S1 R : CS} {s s1 u : RS} {c : CEL} (hC : COR d B b t0 (c :: L) x S s) (hS : STO c T S s) (hT : t0 ≤ T) (w : WAY d T p f k y z S s S1 s1) (n : 0 ≤ p ∧ -1 ≤ f ∧ k = 0 ∧ y ≤ 0 ∧ 0 ≤ z) (h : DON d T S1 s1 R u) : DN d B b t0 T c L x R u := by
  obtain ⟨h1, h2, h3, h4, h5, ⟨i1, i2, i3, i4, i5⟩, ⟨n1, n2, n3, n4⟩, ⟨r1, r2, r3⟩⟩ := w
  have k11 := hC.1.1.2.2.2.1.1
  have k11' := h1.1.2.2.2.1.1
  have rt : RTE S S1 := by
    unfold RTE
    rw [k11, k11']
    exact ⟨by omega, by omega, by omega⟩
  have e19 : s1.i 19 = s.i 19 := Int32.toInt_inj.mp (by omega)
  exact st_done hC hS hT h3 h4 h5 ⟨i1, i3, i4⟩ rt ⟨by omega, n3, e19, by omega⟩ h
/-- the place itself is good -/
def JQ2 (U : RS) (p q : Nat) : JKT := fun FC SF nm X ω j z => GU2 FC SF U nm X p q j.h (ω + j.l - p) j.c → z
set_option maxHeartbeats 8000000 in
/-- a label that is not seen yet -/
theorem lb_new {N : Nat} (hN : 1000 ≤ N) {E1 : CS → Option (Unit × CS)} {E2 : CS → Option (Int32 × CS)} {d : Int32} {B : CS} {b : RS} {t0 T n : Nat} {L : List CEL} {x : Int} {S P : CS} {s q V U : RS} {c : CEL} {l : Int64} {R : Unit × CS} {Aj : JBA} (hC : COR d B b t0 (c :: L) x S s) (q1 : TOP S s c) (q2 : LOW S s c) (q3 : T = ceT c + wid (S.o c.2.1 0)) (hT : t0 ≤ T) (hm : NMC c S) (hx : S.o c.2.1 0 = 303 → x = -2) (hB : BOT b S (c :: L)) (hBS : BSE S (c :: L)) (w : WAY d T 1 3 0 (-2) 1 S s P q) (c58 : P.i 43 = 58) (k64 : q.a 64 T = 5) (k65 : q.a 65 T = 0) (hal : ALN (S.i 43)) (hpay : plI S + (if 97 ≤ l.toInt ∧ l.toInt ≤ 122 then 2 else 3) ≤ eI P) (hno : ∀ y ∈ c :: L, ¬ (P.o y.2.1 0 = 303 ∧ P.ol y.2.1 = l)) (e : f_X7_named_73 N E1 E2 P l = some R) (hV : f_X12_label_60 N q (q.i 63) l = some V) (g : f_X12_parse_10 N n V = some U) (jg : KU3 U s → JRW Aj U B b (vws S s (c :: L)) S s → JRG Aj U B b (vws S s (c :: L)) s [] (JQ2 U (pcC P) (pcR q)) (-1) 0 P q) : DMD d B R.2 U ∨ ∃ (m : Nat) (u : RS), f_X12_parse_10 N m u = some U ∧ NEW d B b t0 c L R.2 u (JTR Aj U B b (c :: L) S s) := by
  have hv := hC.1
  have t21 := hC.2.2.2.2.2.2.2.2.1.1
  have q54 := hC.2.2.2.2.2.2.2.2.1.2.2
  have hin := hC.inl q1 q3
  obtain ⟨cP, tP, lP, oP⟩ := hC.way q1 q2 q3 hT w ⟨by omega, by omega, by omega, by omega, by omega⟩
  have eoP : ∀ y ∈ c :: L, P.o y.2.1 = S.o y.2.1 := fun y hy => (hin.o w.2.2.2.2.1 y hy).1
  -- the class, taken apart
  unfold f_X7_named_73 at e
  obtain ⟨x15, ex15, e⟩ := hf_bind e
  obtain ⟨pp, epp, e⟩ := hf_bind e
  -- the reference
  unfold f_X12_label_60 at hV
  obtain ⟨o, ho, hV⟩ := hf_bind hV
  obtain ⟨-, hV⟩ := hf_ite hV
  rw [tp_nat w.2.1] at hV
  obtain ⟨p5, hp5, hV⟩ := hf_bind hV
  obtain ⟨oe, oa⟩ := g_goa ho
  obtain ⟨b1, b2, b3, b4, b5, b6, ⟨b7, b8, b9⟩, b10⟩ := id oa
  have evz : ENV d P (RS.setA o.2 66 T o.1) := setA_env (Or.inr (by omega)) (oa.env w.1)
  have tz : tpI (RS.setA o.2 66 T o.1) = (T : Int) := by
    show (o.2.i 63).toInt = (T : Int)
    rw [b1 63 (by decide)]
    exact w.2.1
  obtain ⟨d1, d2, d3, d4, d5, d6, d7, d8, d9⟩ := y_nx hN evz tz (by rw [c58]; decide) ex15 hp5
  obtain ⟨a1, a2, a3, a4, a5, a6, a7, a8, a9, a10⟩ := evz.adv hN (by rw [c58]; decide) ex15 hp5
  obtain ⟨-, adv, -, -⟩ := y_adv hN evz.1 ex15 hp5
  have gn := ((ADV.gain evz.1.2.2.2.2.2.2.1 adv).2.1 (by rw [c58]; decide)).2
  have zi : ∀ k : Nat, (RS.setA o.2 66 T o.1).i k = o.2.i k := fun _ => rfl
  have za : ∀ k : Nat, k ≠ 66 → (RS.setA o.2 66 T o.1).a k = o.2.a k := fun k h => setA_nk h
  have z66 : (RS.setA o.2 66 T o.1).a 66 T = o.1 := setA_at
  have zb : (RS.setA o.2 66 T o.1).b = o.2.b := rfl
  have fz : FRB T q (RS.setA o.2 66 T o.1) := (oa.frb T).tr (setA_frb (Or.inr ⟨by omega, by omega, Nat.le_refl _⟩))
  have qz : qe (RS.setA o.2 66 T o.1) = qe q := kre_f_X12_goal N q _ _ o ho
  obtain ⟨z, hz⟩ : ∃ z, z = RS.setA o.2 66 T o.1 := ⟨_, rfl⟩
  rw [← hz] at qz hp5 evz tz d3 d4 d6 d7 d8 d9 a2 a6 a7 zi za z66 zb fz
  clear hz
  have q43s : q.i 43 = s.i 43 := w.2.2.2.1.1.1.2.2.2.2.1
  obtain ⟨gg, hgg⟩ : ∃ gg : Nat, (q.i 43).toInt = (gg : Int) := ⟨(q.i 43).toInt.toNat, by omega⟩
  obtain ⟨⟨c44, c45⟩, ⟨c46, c48, c49⟩, c50', c51⟩ := b10 gg hgg
  have z43 : (z.i 43).toInt = (gg : Int) + 1 := by rw [zi 43, b9, hgg]
  obtain ⟨g44, g45, g46, g47, g50, g51, g48, g49⟩ := d4.1.2.2.1 gg (by omega)
  rw [za 44 (by decide), c44] at g44
  rw [zb, c45] at g45
  rw [za 46 (by decide), c46] at g46
  rw [za 48 (by decide), c48] at g48
  rw [za 47 (by decide), goa47 ho hgg] at g47
  rw [za 49 (by decide), c49] at g49
  rw [za 50 (by decide), c50'] at g50
  rw [za 51 (by decide), c51] at g51
  have lo5 : ∀ j : Nat, (j : Int) < (q.i 43).toInt → p5.a 44 j = q.a 44 j ∧ p5.b 45 j = q.b 45 j ∧ p5.a 46 j = q.a 46 j ∧ p5.a 47 j = q.a 47 j ∧ p5.a 50 j = q.a 50 j ∧ p5.a 51 j = q.a 51 j ∧ p5.a 48 j = q.a 48 j ∧ p5.a 49 j = q.a 49 j := fun j hj => by
    obtain ⟨y1, y2, y3, y4, y5, y6, y7, y8⟩ := d4.1.2.2.1 j (by omega)
    rw [y1, y2, y3, y4, y5, y6, y7, y8, za 44 (by decide), zb, za 46 (by decide), za 47 (by decide), za 50 (by decide), za 51 (by decide), za 48 (by decide), za 49 (by decide)]
    exact ⟨b4 44 j hj, b6 j hj, b4 46 j hj, b4 47 j hj, b4 50 j hj, b4 51 j hj, b4 48 j hj, b4 49 j hj⟩
  obtain ⟨x2, x3, x8, x18, x24, x29, x33, x38, x42, x43, x52, x53, x54, x55, x56, x59, x63, x75, xa1, xa4, xa25, xa26, xa27, xa28, xa30, xa34, xa37, xa40, xa41, xa44, xa46, xa47, xa48, xa49, xa50, xa51, xa57, xa58, xa60, xa61, xa62, xa64, xa65, xa66, xa67, xa68, xa69, xa70, xa71, xa72, xa73, xb9, xb39, xb45, xb74⟩ := qj_eq a2
  have I : ∀ k : Nat, k ≠ 43 → p5.i k = z.i k → p5.i k = q.i k := fun k h1 e => by
    rw [e, zi k]
    exact b1 k h1
  have A : ∀ k : Nat, 51 < k → k ≠ 66 → p5.a k = z.a k → p5.a k = q.a k := fun k h1 h2 e => e.trans ((za k h2).trans (b3 k (Or.inr (Or.inr h1))))
  have A' : ∀ k : Nat, k < 44 → p5.a k = z.a k → p5.a k = q.a k := fun k h1 e => e.trans ((za k (by omega)).trans (b3 k (Or.inl h1)))
  have Bb : ∀ k : Nat, k ≠ 45 → p5.b k = z.b k → p5.b k = q.b k := fun k h1 e => e.trans (by rw [zb]; exact b5 k h1)
  have tb5 : TBR q p5 := ⟨fun j _ => ⟨by rw [Bb 39 (by decide) xb39], by rw [A' 40 (by decide) xa40], by rw [A' 41 (by decide) xa41]⟩, lo5, fun j _ => ⟨by rw [A 57 (by decide) (by decide) xa57], by rw [A 58 (by decide) (by decide) xa58]⟩, ⟨by rw [I 59 (by decide) x59]; exact Int.le_refl _, fun j k1 k2 => by rw [I 59 (by decide) x59] at k2; omega⟩, fun j _ => ⟨by rw [A 60 (by decide) (by decide) xa60], by rw [A 61 (by decide) (by decide) xa61], by rw [A 62 (by decide) (by decide) xa62]⟩, by rw [I 29 (by decide) x29]; exact Int.le_refl _, fun j _ => by rw [A' 30 (by decide) xa30], by rw [I 33 (by decide) x33]; exact Int.le_refl _, fun j _ => ⟨by rw [A' 34 (by decide) xa34], by rw [A' 37 (by decide) xa37]⟩, by rw [I 24 (by decide) x24]; exact Int.le_refl _, fun j _ => ⟨by rw [A' 25 (by decide) xa25], by rw [A' 27 (by decide) xa27], by rw [A' 28 (by decide) xa28]⟩⟩
  -- the same, before the goal
  obtain ⟨q', hq'⟩ : ∃ y, y = RS.setI p5 43 (s.i 43) := ⟨_, rfl⟩
  have qi : ∀ k : Nat, k ≠ 43 → q'.i k = p5.i k := by
    rw [hq']
    exact fun k h => if_neg h
  have q43 : q'.i 43 = s.i 43 := by
    rw [hq']
    rfl
  have qa : q'.a = p5.a ∧ q'.b = p5.b ∧ q'.l = p5.l := by rw [hq']; exact ⟨rfl, rfl, rfl⟩
  clear hq'
  have i20 : p5.i 20 = q.i 20 := by
    rw [a6, zi 20]
    exact b1 20 (by decide)
  have a22 : p5.a 22 = q.a 22 := by
    rw [a7, za 22 (by decide)]
    exact b3 22 (by decide)
  have f5 : FRB T q p5 := fz.tr (d3 T)
  have tbq : TBR q q' := by
    have h := tb5
    unfold TBR at *
    rw [qa.1, qa.2.1, qi 59 (by decide), qi 29 (by decide), qi 33 (by decide), qi 24 (by decide)]
    exact h
  have t9 : TBK9 q q' := ⟨⟨⟨(qi 2 (by decide)).trans (I 2 (by decide) x2), (qi 3 (by decide)).trans (I 3 (by decide) x3), (qi 8 (by decide)).trans (I 8 (by decide) x8), (qi 38 (by decide)).trans (I 38 (by decide) x38), q43.trans q43s.symm, trivial, (qi 56 (by decide)).trans (I 56 (by decide) x56), by rw [qa.1]; exact A' 1 (by decide) xa1, by rw [qa.1]; exact A' 4 (by decide) xa4, by rw [qa.2.1]; exact Bb 9 (by decide) xb9⟩, tbq⟩, ⟨by rw [qi 20 (by decide), i20]; exact Int.le_refl _, fun j _ => by rw [qa.1, a22]⟩⟩
  have i11 : (q.i 11).toInt + 1 ≤ (p5.i 11).toInt := by
    rw [zi 11, b1 11 (by decide)] at d6
    exact d6
  have i17 : (p5.i 17).toInt = (q.i 17).toInt + 1 := by rw [d8, zi 17, b1 17 (by decide)]
  have i19 : p5.i 19 = q.i 19 := by rw [d9, zi 19, b1 19 (by decide)]
  have ph5 : phI p5 = phI q + 3 := by
    unfold phI
    rw [i20, i17]
    omega
  have phq : phI q' = phI p5 := by
    unfold phI
    rw [qi 17 (by decide), qi 20 (by decide)]
  have evq : ENV d x15.2 q' := d1.kq (qi 38 (by decide)) (qi 2 (by decide)) (qi 3 (by decide)) (qi 18 (by decide)) (qi 53 (by decide)) (qi 54 (by decide)) (qi 55 (by decide)) (by rw [qa.1]) (by rw [qa.1]) (by rw [qa.1]) (by rw [qa.2.1]) (by rw [qa.2.1]) (qi 10 (by decide)) (qi 11 (by decide)) (qi 12 (by decide)) (qi 14 (by decide)) (qi 15 (by decide)) (qi 17 (by decide)) (qi 19 (by decide)) qa.2.2 ⟨by rw [qi 20 (by decide)]; exact d1.2.2.2.2.2.2.1, by rw [phq]; exact d1.2.2.2.2.2.2.2.1⟩ (w.1.wp.of (by rw [q43, q43s]; exact Int.le_refl _) ((qi 56 (by decide)).trans (I 56 (by decide) x56)) ((qi 59 (by decide)).trans (I 59 (by decide) x59)) ((qi 29 (by decide)).trans (I 29 (by decide) x29)) (by rw [qa.1]; exact A 58 (by decide) (by decide) xa58) (by rw [qa.1]; exact A 62 (by decide) (by decide) xa62))
  have wx : WAX d T 2 6 0 (-4) 2 S s x15.2 q' := ((w.z (by omega)).x.tk (p1 := 1) (f1 := 3) (k1 := 0) evq (f5.tr (fun j _ => by rw [qa.1, qa.2.1]; exact ⟨rfl, rfl, rfl, rfl, rfl, rfl, rfl, rfl, rfl, rfl, rfl⟩)) t9 a3 a8 a9 ⟨by rw [qi 11 (by decide)]; exact i11, by rw [phq]; omega, by rw [qi 17 (by decide)]; omega, by rw [qi 19 (by decide), i19]; omega⟩ (by omega)).nu (by omega) (by omega) (by omega) (by omega) (by omega)
  have lox := wx.lo
  rw [qi 11 (by decide), phq] at lox
  -- the class's row
  obtain ⟨m, hmm, m38⟩ := RWI.few d1
  have hm' : (x15.2.i 53).toInt = (m : Int) := hmm
  obtain ⟨a, ra, psr⟩ := y_push d1.ri.s hmm (by omega) epp
  rw [ra] at e
  have e' : (if oK pp.2 a 0 then (f_X0_newTarget N (CS.setOl pp.2 a l)).bind fun p26 => if oK p26.2 a 0 then some ((), CS.setO p26.2 a 9 p26.1) else none else none) = some R := e
  obtain ⟨-, e'⟩ := hf_ite e'
  obtain ⟨x26, ex26, e'⟩ := hf_bind e'
  obtain ⟨-, e'⟩ := hf_ite e'
  cases e'
  obtain ⟨sj1, sj2, sj3, sj4, sj5, sj6⟩ := id d1.sj
  have hi := i11_hi d1
  have sq0 := psr.sq hm' m38 ⟨sj1, by omega⟩
  have sq1 : PSQ x15.2 (CS.setOl pp.2 a l) a m 303 (x15.2.i 50) := by
    obtain ⟨⟨c1, c2, c3, c4, c5, c6, c7, c8⟩, ⟨d1, d2, d3, d4⟩, ⟨e1, e2, e3⟩, h4, ⟨f0, f1, f3, f14⟩, h6⟩ := sq0
    exact ⟨⟨c1, c2, fun i b hi hb => ⟨(c3 i b hi hb).1, (show (CS.setOl pp.2 a l).ol b = pp.2.ol b from if_neg (h6 i b hi hb)).trans (c3 i b hi hb).2⟩, c4, c5, c6, c7, c8⟩, ⟨d1, d2, d3, d4⟩, ⟨e1, e2, e3⟩, h4, ⟨f0, f1, f3, f14⟩, h6⟩
  have sqX := (sq1.nt ex26).so (k := 9) (w := x26.1) ⟨by decide, by decide, by decide, by decide⟩
  obtain ⟨nw, n21'⟩ := (NTW.rf (CS.setOl pp.2 a l)).nt ex26
  have nx := nw.so (a := a) (k := 9) (v := x26.1) (Or.inl rfl)
  have ji := psr.2.1
  have X21 : ((CS.setO x26.2 a 9 x26.1).i 21).toInt = (x15.2.i 21).toInt + 1 := by
    show (x26.2.i 21).toInt = _
    rw [n21']
    show (pp.2.i 21 + 1).toInt = _
    rw [ji 21 (by decide) (by decide)]
    have := d1.t21
    exact ad1 this.1 (by omega)
  have olX : (CS.setO x26.2 a 9 x26.1).ol a = l := by
    show x26.2.ol a = l
    rw [nw.2.2.1.2.2.2.2.2.2]
    show (CS.setOl pp.2 a l).ol a = l
    exact if_pos rfl
  have olB : ∀ b : Nat, b ≠ a → (CS.setO x26.2 a 9 x26.1).ol b = pp.2.ol b := fun b hb => by
    show x26.2.ol b = _
    rw [nw.2.2.1.2.2.2.2.2.2]
    exact if_neg hb
  obtain ⟨X, hX⟩ : ∃ X, X = CS.setO x26.2 a 9 x26.1 := ⟨_, rfl⟩
  show DMD d B (CS.setO x26.2 a 9 x26.1) U ∨ ∃ (m : Nat) (u : RS), f_X12_parse_10 N m u = some U ∧ NEW d B b t0 c L (CS.setO x26.2 a 9 x26.1) u (JTR Aj U B b (c :: L) S s)
  have eX : pe X = pe x26.2 ∧ X.a = x26.2.a ∧ X.i = x26.2.i ∧ X.o a 9 = x26.1 := by
    rw [hX]
    exact ⟨rfl, rfl, rfl, so_at⟩
  have oX2 : X.o a 2 = X.i 38 := by
    have z0 : x26.2.o = (CS.setOl pp.2 a l).o := by
      unfold f_X0_newTarget at ex26
      cases ex26
      rfl
    have z1 : x26.2.i 38 = pp.2.i 38 := by
      unfold f_X0_newTarget at ex26
      cases ex26
      rfl
    rw [eX.2.2.1, z1, ji 38 (by decide) (by decide), ← psh_o2 epp ra, hX, so_nk (by decide), z0]
    rfl
  rw [← hX] at sqX nx X21 olX olB ⊢
  clear hX
  obtain ⟨ui, ua, ⟨ur, ub, ul, uL, uk, uh, -⟩, uo⟩ := nx
  obtain ⟨⟨pa, pb, pl⟩, -, ⟨p53, p54⟩, -, -, -, -, -, -, ⟨f5', f6, f7, f8⟩, -⟩ := id psr
  have UI : ∀ j : Nat, j ≠ 21 → j ≠ 53 → j ≠ 54 → X.i j = x15.2.i j := fun j h1 h2 h3 => (ui j h1).trans (ji j h2 h3)
  have X54 : (X.i 54).toInt = (x15.2.i 54).toInt + 1 := by
    rw [ui 54 (by decide)]
    show (pp.2.i 54).toInt = _
    rw [p54]
    exact ad1 sj1 (by omega)
  have ewX : ENW d X p5 := by
    refine d1.w.gx (fun j h1 _ _ h4 h5 _ _ => UI j h1 h4 h5) ⟨?_, ?_, ?_⟩ ?_ ?_ ?_ ?_
    · rw [ua 0 (by decide)]
      show pp.2.a 0 = _
      rw [pa]
    · rw [ua 9 (by decide)]
      show pp.2.a 9 = _
      rw [pa]
    · rw [ua 49 (by decide)]
      show pp.2.a 49 = _
      rw [pa]
    · rw [ub]
      exact pb
    · rw [ul]
      exact pl
    · unfold SJB
      rw [X54, UI 55 (by decide) (by decide) (by decide), UI 38 (by decide) (by decide) (by decide)]
      omega
    · rw [X21]
      have := d1.t21
      omega
  -- the rows and what they cost
  have sm := wx.sum hv
  have es : (cnI x15.2).toNat = m := by
    show (x15.2.i 53).toInt.toNat = m
    rw [hm']
    exact Int.toNat_natCast _
  have bse15 : BSE x15.2 (c :: L) := by
    refine BSE.mv (c :: L) hBS wx.2.2.2.2.2.1.2.2.1 wx.2.2.2.2.2.1.2.1 (fun y hy => ?_)
    have z1 := hin y hy
    exact ⟨wx.2.2.2.2.1.2.1 y.1 z1.1, (wx.2.2.2.2.1.2.2.1 y.1 y.2.1 z1.1 z1.2.1).1⟩
  have pjx := pj_eq a3
  have rwX : RWI X := by
    refine psr.lab d1.ri hm' (by omega) ur uL uk uh (ui 53 (by decide)) (fun b => uo b 0 (by decide) (by decide) (by decide)) olB olX (fun sh => ?_) ?_ ?_
    · obtain ⟨y1, y2, y3, y4⟩ := BSE.arm L c bse15
      have cn : cnI x15.2 = (c.1 : Int) + 1 := by
        show (x15.2.i 53).toInt = _
        rw [wx.2.2.2.2.2.1.2.1]
        exact q1.1
      have kn := KLS.new (s := x15.2) (x1 := l) ⟨y1, by omega, y2⟩ d1.ri.2.2.2.1.2 sh (fun i b' i1 i2 i3 i4 i5 => by
        obtain ⟨y, hy, ey⟩ := y4 i i1 (by omega)
        have z1 := (BSE.at L c bse15 y hy).1
        rw [ey, i3] at z1
        cases z1
        have z2 := hno y hy
        rw [pjx.2.2.2.2.2.2.2.2.2.2.2.2.2.2.2.2.2.2.2.2.2.2.2.2.1] at i4
        rw [pjx.2.2.2.2.2.2.2.2.2.2.2.2.2.2.2.2.2.2.2.2.2.2.2.2.2.1] at i5
        exact z2 ⟨i4, i5⟩)
      rw [es] at kn
      exact kn
    · have z1 := hv.ri.2.2.2.2.2.1
      rw [eI.al hal, ← sm.2, es] at z1
      have z2 : eI X = eI x15.2 := by
        unfold eI plI
        rw [UI 44 (by decide) (by decide) (by decide), UI 43 (by decide) (by decide) (by decide)]
      omega
    · have z1 := d1.ri.2.2.2.2.2.2
      rw [es] at z1
      have z2 : sgI X = sgI x15.2 := by
        unfold sgI
        rw [UI 34 (by decide) (by decide) (by decide)]
      omega
  have evX : ENV d X p5 := ewX.v rwX
  have o5X : X.o a 5 = 0 := by
    rw [uo a 5 (by decide) (by decide) (by decide)]
    exact f5'
  obtain ⟨zX, ⟨R53, R54, -, -⟩, ⟨R50, R56, R36⟩, ⟨-, -, rr1⟩, ⟨g0, -, g3', -⟩, -⟩ := id sqX
  have c50 : x15.2.i 50 = S.i 50 := by
    have z1 := d1.2.1.1
    have z3 : q.i 38 = s.i 38 := w.2.2.2.1.1.1.2.2.2.1
    rw [z1, I 38 (by decide) x38, z3]
    exact hv.2.1.1.symm
  have r36 : X.i 36 = 1 := R36.trans wx.2.2.2.2.2.1.2.2.2
  have one : isOne (X.o a 0) := by
    rw [g0]
    exact Or.inr (Or.inr (Or.inl rfl))
  -- what the label's chain becomes
  have o1n : o.1.toInt = (gg : Int) := by rw [oe]; exact hgg
  have o1c : o.1.toNatClampNeg = gg := by
    show o.1.toInt.toNat = gg
    omega
  have lb2 : LBC S s (c :: L) (-2) := by
    have z := hC.2.2.2.1
    by_cases w : S.o c.2.1 0 = 303
    · rw [hx w] at z
      exact z
    · exact z.no w
  have s46e : ∀ j : Nat, (j : Int) < (s.i 43).toInt → p5.a 46 j = s.a 46 j := fun j hj => by
    rw [(lo5 j (by rw [q43s]; exact hj)).2.2.1]
    exact (w.2.2.2.1.1.2.2.1 j hj).2.2.1
  have bs43 : (b.i 43).toInt ≤ (s.i 43).toInt := hC.2.2.2.2.2.1.2.1.2.1
  have ways : ∃ (v : RS) (xn x' : Int), f_X12_label_188 N v = some V ∧ E46 p5 v ∧ LBC S (s46 s (v.a 46)) (c :: L) x' ∧ (∀ j : Nat, (j : Int) < (b.i 43).toInt → v.a 46 j = s.a 46 j) ∧ (v.a 46 gg).toInt = xn ∧ x' = (if xn = -1 then -2 else xn) ∧ xn = (if p5.i 10 = 415 ∨ p5.i 10 = 416 ∨ p5.i 10 = 417 then -3 else if p5.i 10 = 2 then -2 else -1) := by
    have loop : f_X12_label_110 N p5 o.1 = some V → (p5.i 10 = 415 ∨ p5.i 10 = 416 ∨ p5.i 10 = 417) → ∃ (v : RS) (xn x' : Int), f_X12_label_188 N v = some V ∧ E46 p5 v ∧ LBC S (s46 s (v.a 46)) (c :: L) x' ∧ (∀ j : Nat, (j : Int) < (b.i 43).toInt → v.a 46 j = s.a 46 j) ∧ (v.a 46 gg).toInt = xn ∧ x' = (if xn = -1 then -2 else xn) ∧ xn = (if p5.i 10 = 415 ∨ p5.i 10 = 416 ∨ p5.i 10 = 417 then -3 else if p5.i 10 = 2 then -2 else -1) := fun h hk => by
      unfold f_X12_label_110 at h
      obtain ⟨hib, h⟩ := hf_ite h
      rw [o1c] at h
      have o1m : (o.1 - 1).toInt = (gg : Int) - 1 := by
        have e1 : (1 : Int32).toInt = 1 := by decide
        have y1 := hib.2
        rw [toInt_sub] <;> rw [e1] <;> omega
      have t43 := q1.2.1
      rw [← q43s, hgg] at t43
      obtain ⟨v, r1, r2, r3, r4⟩ := y_walk2 N L c _ _ _ x (RS.setA p5 46 gg (-3)) (o.1 - 1) cP.2.1 cP.2.2.2.1 (fun h => hx (by rw [← oP]; exact h)) (BOT.mv (c :: L) hB eoP) cP.2.2.2.2.2.1.2.1 (by rw [o1m, oP]; omega) (fun i hi => by
        rw [o1m] at hi
        have y := lo5 i (by omega)
        refine ⟨y.1, ?_⟩
        rw [setA_ne (by omega)]
        exact y.2.2.1) h
      have e1 : E46 p5 (RS.setA p5 46 gg (-3)) := ⟨rfl, rfl, rfl, fun q hq => setA_nk hq⟩
      refine ⟨v, -3, -3, r1, e1.tr r2, ?_, fun j hj => ?_, ?_, by decide, by rw [if_pos hk]⟩
      · exact LBC.mv (c :: L) (-3) r3 (fun y hy => (eoP y hy).symm) (fun y hy _ => by rw [s46.at])
      · rw [r4 j (Or.inl hj), setA_ne (by rw [q43s] at hgg; omega)]
        exact s46e j (by omega)
      · rw [r4 gg (Or.inr (by omega)), show (RS.setA p5 46 gg (-3)).a 46 gg = -3 from setA_at]
        decide
    by_cases k1 : p5.i 10 = 415
    · rw [if_pos k1] at hV
      exact loop hV (Or.inl k1)
    rw [if_neg k1] at hV
    by_cases k2 : p5.i 10 = 416
    · rw [if_pos k2] at hV
      exact loop hV (Or.inr (Or.inl k2))
    rw [if_neg k2] at hV
    by_cases k3 : p5.i 10 = 417
    · rw [if_pos k3] at hV
      exact loop hV (Or.inr (Or.inr k3))
    rw [if_neg k3] at hV
    have nk : ¬ (p5.i 10 = 415 ∨ p5.i 10 = 416 ∨ p5.i 10 = 417) := fun h => by
      rcases h with h | h | h
      · exact k1 h
      · exact k2 h
      · exact k3 h
    have mv : ∀ v : RS, (∀ j : Nat, j ≠ gg → v.a 46 j = p5.a 46 j) → LBC S (s46 s (v.a 46)) (c :: L) (-2) := fun v hv => LBC.mv (c :: L) (-2) lb2 (fun _ _ => rfl) (fun y hy h => by
      have lt := (hin y hy).2.2.2.1 (Or.inl h)
      rw [s46.at, hv (ceG y) (by rw [q43s] at hgg; omega)]
      exact s46e (ceG y) lt)
    by_cases k4 : p5.i 10 = 2
    · rw [if_pos k4] at hV
      obtain ⟨-, hV⟩ := hf_ite hV
      rw [o1c] at hV
      refine ⟨RS.setA p5 46 gg (-2), -2, -2, hV, ⟨rfl, rfl, rfl, fun q hq => setA_nk hq⟩, mv _ (fun j hj => setA_ne hj), fun j hj => ?_, ?_, by decide, by rw [if_neg nk, if_pos k4]⟩
      · rw [setA_ne (by rw [q43s] at hgg; omega)]
        exact s46e j (by omega)
      · rw [show (RS.setA p5 46 gg (-2)).a 46 gg = -2 from setA_at]
        decide
    · rw [if_neg k4] at hV
      exact ⟨p5, -1, -2, hV, E46.rf p5, mv p5 (fun _ _ => rfl), fun j hj => s46e j (by omega), by rw [g46]; decide, by decide, by rw [if_neg nk, if_neg k4]⟩
  obtain ⟨v, xn, x', hv188, ev46, lbx, hb46, v46, hxn, hxk⟩ := ways
  obtain ⟨ei, el, eb, ea⟩ := id ev46
  unfold f_X12_label_188 at hv188
  rw [ob_id] at hv188
  have evv : ENV d X v := evX.e46 ev46
  rcases r_body evv.1.2.1 hv188 g with ⟨z1, z2⟩ | ⟨hth, n410, n411, -⟩
  · exact Or.inl ⟨z1, ⟨v, evv, z2⟩, r36, a, m, by omega, ⟨m38, by have z9 := hC.2.2.2.2.1.2.2.1; have z8 := wx.2.2.2.2.2.1.2.1; rw [z8] at hm'; omega⟩, rr1, one, o5X⟩
  refine Or.inr ?_
  have tv' : tpI v = (T : Int) := by
    show (v.i 63).toInt = (T : Int)
    rw [ei]
    exact d2
  obtain ⟨hV', t99⟩ := r_then tv' hth
  rw [hV'] at g
  obtain ⟨u, hu⟩ : ∃ y, y = TH v T 1 2 := ⟨_, rfl⟩
  have evu : ENV d X u := by rw [hu]; exact evv.th
  have fu : FRB T v u := by rw [hu]; exact TH.frb
  have ku : TBK v u := by rw [hu]; exact TH.tbk
  have iu : ∀ k : Nat, k ≠ 63 → u.i k = v.i k := by
    rw [hu]
    exact fun k h => if_neg h
  have ua' : ∀ k : Nat, k ≠ 64 → k ≠ 65 → u.a k = v.a k := by
    rw [hu]
    exact fun k h1 h2 => TH.loc h1 h2
  have ub' : u.b = v.b := by rw [hu]; rfl
  have quv : qe u = qe v := by rw [hu]; rfl
  have u64 : u.a 64 T = 5 := by
    rw [hu, TH.fk0 (Nat.le_refl T), ea 64 (by decide), xa64, za 64 (by decide), b3 64 (by decide)]
    exact k64
  have u65 : u.a 65 T = 1 := by rw [hu]; exact TH.st
  have u641 : u.a 64 (T + 1) = 2 := by rw [hu]; exact TH.fk
  have u651 : u.a 65 (T + 1) = 0 := by rw [hu]; exact TH.fs
  have tu : tpI u = ((T + 1 : Nat) : Int) := by rw [hu]; exact TH.tp tv' (by omega)
  rw [← hu] at g
  clear hu hV'
  have u46 : u.a 46 = v.a 46 := ua' 46 (by decide) (by decide)
  have ui' : ∀ k : Nat, k ≠ 63 → u.i k = p5.i k := fun k hk => by rw [iu k hk, ei]
  have u66 : (u.a 66 T).toInt = (q'.i 43).toInt := by
    rw [ua' 66 (by decide) (by decide), ea 66 (by decide), xa66, z66, oe, q43, q43s]
  have ug : ∀ k : Nat, 44 ≤ k → k ≤ 51 → k ≠ 46 → u.a k = p5.a k := fun k h1 h2 h3 => (ua' k (by omega) (by omega)).trans (ea k h3)
  have uf : FRB T q' u := by
    have z1 : FRB T p5 v := fun j hj => ⟨by rw [ea 64 (by decide)], by rw [ea 65 (by decide)], by rw [ea 66 (by decide)], by rw [ea 67 (by decide)], by rw [ea 68 (by decide)], by rw [ea 69 (by decide)], by rw [ea 70 (by decide)], by rw [ea 71 (by decide)], by rw [ea 72 (by decide)], by rw [ea 73 (by decide)], by rw [eb]⟩
    intro j hj
    have z2 := (z1.tr fu) j hj
    rw [qa.1, qa.2.1]
    exact z2
  have tu46 : TBR (s46 q' (u.a 46)) u := by
    have z1 : TBR q' p5 := by
      unfold TBR
      rw [qa.1, qa.2.1, qi 59 (by decide), qi 29 (by decide), qi 33 (by decide), qi 24 (by decide)]
      exact ⟨fun _ _ => ⟨rfl, rfl, rfl⟩, fun _ _ => ⟨rfl, rfl, rfl, rfl, rfl, rfl, rfl, rfl⟩, fun _ _ => ⟨rfl, rfl⟩, ⟨Int.le_refl _, fun j k1 k2 => by omega⟩, fun _ _ => ⟨rfl, rfl, rfl⟩, Int.le_refl _, fun _ _ => rfl, Int.le_refl _, fun _ _ => ⟨rfl, rfl⟩, Int.le_refl _, fun _ _ => ⟨rfl, rfl, rfl⟩⟩
    have z2 := z1.e46 ev46
    rw [u46]
    refine z2.tr ku.1.r (by show (q'.i 38).toInt ≤ (v.i 38).toInt; rw [ei, qi 38 (by decide)]; exact Int.le_refl _) (by show (q'.i 43).toInt ≤ (v.i 43).toInt; rw [ei, x43, z43, q43, ← q43s, hgg]; omega) (by show (q'.i 56).toInt ≤ (v.i 56).toInt; rw [ei, qi 56 (by decide)]; exact Int.le_refl _)
  have phu : phI u = phI p5 := by
    unfold phI
    rw [ui' 17 (by decide), ui' 20 (by decide)]
  obtain ⟨c1, hc, ht, v2, v3⟩ := hC.lab q1 q2 q3 hT hm wx (by omega) sqX (g3'.trans c50) (UI 38 (by decide) (by decide) (by decide)) uf tu46 ⟨by rw [ui' 20 (by decide), qi 20 (by decide)]; exact Int.le_refl _, fun j _ => by rw [ua' 22 (by decide) (by decide), ea 22 (by decide), qa.1]⟩ ⟨by rw [ui' 2 (by decide), qi 2 (by decide)], by rw [ui' 3 (by decide), qi 3 (by decide)], by rw [ui' 8 (by decide), qi 8 (by decide)], by rw [ui' 38 (by decide), qi 38 (by decide)], by rw [ua' 1 (by decide) (by decide), ea 1 (by decide), qa.1], by rw [ua' 4 (by decide) (by decide), ea 4 (by decide), qa.1], by rw [ub', eb, qa.2.1]⟩ (by rw [ui' 43 (by decide), x43, z43, q43, ← q43s, hgg]) (by rw [ui' 56 (by decide), qi 56 (by decide)]) evu ⟨by rw [ui' 11 (by decide), qi 11 (by decide)]; exact Int.le_refl _, by rw [phu]; omega, by rw [ui' 17 (by decide), qi 17 (by decide)]; exact Int.le_refl _, by rw [ui' 19 (by decide)]; have z9 := wx.2.2.2.2.2.2.1.2.2.2; rw [qi 19 (by decide)] at z9; omega⟩ (by rw [X21, ui' 11 (by decide)]; omega) (by rw [R54, ui' 11 (by decide)]; omega) ⟨by rw [ui' 59 (by decide), qi 59 (by decide)], by rw [ua' 60 (by decide) (by decide), ea 60 (by decide), qa.1], by rw [ua' 61 (by decide) (by decide), ea 61 (by decide), qa.1], by rw [ua' 62 (by decide) (by decide), ea 62 (by decide), qa.1]⟩ (by rw [u46]; exact lbx) (fun j hj => by rw [u46]; exact hb46 j hj) (fun g hg => by
      have hg1 : g = gg := by
        rw [q43, ← q43s] at hg
        omega
      rw [hg1, u46, ub', eb, ug 44 (by decide) (by decide) (by decide), ug 48 (by decide) (by decide) (by decide), ug 49 (by decide) (by decide) (by decide), ug 50 (by decide) (by decide) (by decide), ug 51 (by decide) (by decide) (by decide)]
      exact ⟨g44, g45.trans olX.symm, v46, ⟨g48, g49⟩, g50, g51⟩) hxn ⟨u64, u65, u66⟩
  have cdx : cod c1 X u = xn := by
    unfold cod lcd
    rw [if_pos (by rw [v2]; exact ⟨g0, o5X⟩), ui' 10 (by decide)]
    exact hxk.symm
  refine ⟨n, u, g, c1, by rw [cdx]; exact hc, ht, ⟨Or.inr (Or.inl ⟨by rw [v2]; exact one, by rw [v2]; exact o5X, by rw [v3]; exact tu, by rw [v3]; exact u641, by rw [v3]; exact u651, r36, (by rw [iu 10 (by decide)]; exact ⟨n410, n411⟩), fun _ _ _ => by rw [v2, g3', R50]⟩), Or.inr r36⟩, fun ku0 jw => ?_⟩
  have ckall : CKZ S X := wx.2.2.2.2.1.tr wx.2.2.2.2.2.1.2.1 zX
  have fsu : FRB T s u := wx.2.2.1.tr uf
  have veq : vws X u (c :: L) = vws S s (c :: L) := vws.eqf (T := T) (fun j hj => (by rw [ua' 40 (by decide) (by decide), ea 40 (by decide)] : u.a 40 j = p5.a 40 j).trans (((tb5.1 j (by rw [w.2.2.2.1.1.1.2.2.2.1]; exact hj)).2.1).trans (w.2.2.2.1.1.2.1 j hj).2.1)) (c :: L) hC.o3 (fun y hy => (hin.o ckall y hy).1) (fun k t h1 h2 h3 => fsu.fld k t h1 h2 h3) (fun y hy => by
    have z1 := wid1 (S.o y.2.1 0)
    have z2 := (hin y hy).2.2.1
    omega)
  show JRW Aj U B b (vw X u c1 :: vws X u (c :: L)) X u
  rw [veq]
  have pls : ∀ y ∈ vws S s (c :: L), y.2.2.1 < c1.1 := vws.pl hc
  have qvp : qe v = qe p5 := by
    unfold qe
    rw [ei, ea 21 (by decide), ea 22 (by decide), ea 23 (by decide), ea 25 (by decide), ea 26 (by decide), ea 27 (by decide), ea 28 (by decide), ea 30 (by decide), ea 31 (by decide), ea 32 (by decide), ea 34 (by decide), ea 35 (by decide), ea 36 (by decide), ea 37 (by decide)]
  have j1 := jg ku0 jw
  have j2 := (j1.se (u := z) qz ⟨by rw [zi 38, b1 38 (by decide)], fun j _ => by rw [za 40 (by decide), b3 40 (by decide)]⟩).adv hN evz (by rw [c58]; decide) ex15 hp5
  have j3 := j2.se (u := u) (quv.trans qvp) ⟨ui' 38 (by decide), fun j _ => by rw [ua' 40 (by decide) (by decide), ea 40 (by decide)]⟩
  have j4 := (j3.ce (R := pp.2) (ke_X6_push N x15.2 303 _ _ pp epp) (ji 21 (by decide) (by decide)) (by rw [pa]) (by rw [pa]) (ji 50 (by decide) (by decide)) (ji 44 (by decide) (by decide))).ce (R := CS.setOl pp.2 a l) rfl rfl rfl rfl rfl rfl
  have h44 : ((CS.setOl pp.2 a l).i 44).toInt ≤ 900 := by
    show (pp.2.i 44).toInt ≤ 900
    rw [ji 44 (by decide) (by decide), d1.p44.1]
    exact hi.2
  have j5 := j4.nt ex26 h44 (by omega)
  obtain ⟨eX1, eX2, eX3, eX9⟩ := eX
  have j6 := j5.ce (R := X) eX1 (by rw [eX3]) (by rw [eX2]) (by rw [eX2]) (by rw [eX3]) (by rw [eX3])
  have k26 : x26.2.i 20 = pp.2.i 20 := by
    unfold f_X0_newTarget at ex26
    cases ex26
    rfl
  have pcX : pcC X = pcC P := by
    rw [← pcC.pe (ke_X9_advance N P x15 ex15)]
    unfold pcC
    rw [eX3, k26, (pe_eq (ke_X6_push N x15.2 303 _ _ pp epp)).1]
  have pru : pcR u = pcR q := by
    unfold pcR
    rw [ui' 20 (by decide), i20]
  have hr0 : (vw X u c1).v = 303 := show X.o c1.2.1 0 = 303 by rw [v2]; exact g0
  have r9 : (vw X u c1).1 9 = x26.1 := show X.o c1.2.1 9 = x26.1 by rw [v2]; exact eX9
  have jl : jlv (vw X u c1).v = 0 := by rw [hr0]; rfl
  have u43 : (u.i 43).toInt = (gg : Int) + 1 := by rw [ui' 43 (by decide), x43]; exact z43
  have gkp : GKP s u := ((GKP.tbr w.2.2.2.1.1.2 (by rw [q43s]; exact Int.le_refl _)).tr (GKP.tbr tb5 (by rw [x43]; omega))).tr ⟨by rw [ui' 43 (by decide)]; exact Int.le_refl _, fun j _ => ⟨by rw [ug 50 (by decide) (by decide) (by decide)], by rw [ug 51 (by decide) (by decide) (by decide)], by rw [ug 48 (by decide) (by decide) (by decide)], by rw [ug 49 (by decide) (by decide) (by decide)], by rw [ug 47 (by decide) (by decide) (by decide)]⟩, by rw [ui' 59 (by decide)]; exact Int.le_refl _, fun j _ => ⟨by rw [ua' 60 (by decide) (by decide), ea 60 (by decide)], by rw [ua' 61 (by decide) (by decide), ea 61 (by decide)], by rw [ua' 62 (by decide) (by decide), ea 62 (by decide)]⟩⟩
  have eg : ceG c1 = gg := by
    have t43 := ht.2.1
    have o1 : nGo (X.o c1.2.1 0) = 1 := by rw [v2, g0]; decide
    rw [o1] at t43
    omega
  have eM : (-1 : Int32).toInt = -1 := by decide
  have u11s : (s.i 11).toInt ≤ (u.i 11).toInt := by
    have y1 := w.2.2.2.2.2.2.1.1
    rw [ui' 11 (by decide)]
    omega
  have u19s : (s.i 19).toInt ≤ (u.i 19).toInt := by
    have y1 := w.2.2.2.2.2.2.1.2.2.2
    rw [ui' 19 (by decide), i19]
    omega
  refine j6.ps0 (r := vw X u c1) ⟨by omega, fun y => by rcases y with y | y <;> rw [hr0] at y <;> exact absurd y (by decide), fun y => absurd (hr0.symm.trans y) (by decide), by rw [hr0]; decide⟩ (Or.inl (by omega)) gkp u11s u19s pls (fun y => ?_) (by rw [hr0]; decide) (by rw [hr0]; decide) (by rw [hr0]; decide) (by rw [hr0]; decide) (fun k y => ?_) ?_ (fun _ => ?_) r36 (fun FC SF nm X' G' col YJ ω j Z hω r12 hc' hh k jr' cur => ?_)
  · rcases y with y | y | y | y <;> rw [hr0] at y <;> exact absurd y (by decide)
  · unfold rsite at y
    rw [hr0] at y
    rcases y with ⟨y, -⟩ | ⟨y, -⟩ | ⟨y, -⟩ | ⟨y, -⟩
    · rcases y with y | y | y <;> exact absurd y (by decide)
    · exact absurd y (by decide)
    · rcases y with y | y <;> exact absurd y (by decide)
    · rcases y with y | y <;> exact absurd y (by decide)
  · have e1 : rtgs (vw X u c1) = [x26.1] := by
      unfold rtgs
      rw [hr0, if_neg (by decide), if_pos (by decide), r9]
    have e2 : ptl [tv x26.1] = [x26.1] := by
      show rtgs (tv x26.1) ++ [] = _
      rw [tv.tgs]
      rfl
    rw [e1]
    exact List.Perm.of_eq e2.symm
  · show (s.i 43).toInt ≤ ((ceG c1 : Nat) : Int) ∧ ((ceG c1 : Nat) : Int) < (u.i 43).toInt ∧ (u.a 48 (ceG c1)).toInt < 0 ∧ (u.a 49 (ceG c1)).toInt < 0 ∧ X.o c1.2.1 2 = X.i 38 ∧ (dln (vw X u c1).v = 0 → u.a 47 (ceG c1) = u.i 52) ∧ (dln (vw X u c1).v = 1 → u.a 47 (ceG c1) = u.i 52 + 1) ∧ NT5 (X.o c1.2.1 9) ∧ (isLo (vw X u c1).v → NT5 (X.o c1.2.1 10)) ∧ RHP (vw X u c1).v (vw X u c1).2.1
    have dl : dln (vw X u c1).v = 0 := by rw [hr0]; decide
    have n59 : NT5 x26.1 := by
      have h1 := d1.t21
      have h2 := (i11_hi d1).2
      have h3 : (CS.setOl pp.2 a l).i 21 = x15.2.i 21 := ji 21 (by decide) (by decide)
      exact (nt5r ex26 ⟨by rw [h3]; exact h1.1, by rw [h3]; omega⟩).1
    have u52 : u.i 52 = q.i 52 := by rw [ui' 52 (by decide), x52, zi 52, b1 52 (by decide)]
    rw [eg, ug 48 (by decide) (by decide) (by decide), ug 49 (by decide) (by decide) (by decide), ug 47 (by decide) (by decide) (by decide), g47, g48, g49, eM, dl, u52]
    rw [q43s] at hgg
    exact ⟨by omega, by omega, by omega, by omega, by rw [v2]; exact oX2, fun _ => rfl, fun z => by omega, by rw [v2, eX9]; exact n59, fun z => by rw [hr0] at z; rcases z with z | z | z | z <;> exact absurd z (by decide), RHP.no (by rw [hr0]; decide)⟩
  · rw [jl, pcX, pru, Nat.add_zero] at cur
    exact ⟨k cur, JHH.no (by rw [hr0]; decide)⟩
