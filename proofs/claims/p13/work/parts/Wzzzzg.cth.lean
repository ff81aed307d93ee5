section
/-! both readers: catch -/
theorem nt_fr {N : Nat} {S : CS} {w : Int32 × CS} (e : f_X0_newTarget N S = some w) : (∀ k : Nat, k ≠ 21 → w.2.i k = S.i k) ∧ w.2.i 21 = S.i 21 + 1 ∧ (∀ k : Nat, k ≠ 17 → w.2.a k = S.a k) ∧ w.2.r = S.r ∧ w.2.o = S.o ∧ w.2.ol = S.ol ∧ w.2.b = S.b ∧ w.2.l = S.l ∧ (w.2.hs = S.hs ∧ w.2.L = S.L ∧ w.2.k = S.k) := by
  unfold f_X0_newTarget at e
  cases e
  exact ⟨fun k hk => ci_ne _ _ _ hk, ci_at _ _ _, fun k hk => if_neg hk, rfl, rfl, rfl, rfl, rfl, rfl, rfl, rfl⟩
theorem RWI.cat {S X : CS} {c1 : CEL} (h : RWI S) (n4 : c1.1 < 400) (cn : cnI S = (c1.1 : Int) + 1) (ha : S.r 51 c1.1 = some c1.2.1) (h305 : S.o c1.2.1 0 = 305) (er : X.r = S.r) (eo : ∀ b : Nat, b ≠ c1.2.1 → X.o b = S.o b) (eol : X.ol = S.ol) (e53 : X.i 53 = S.i 53) (ehk : X.hs = S.hs ∧ X.L = S.L ∧ X.k = S.k) (X0 : X.o c1.2.1 0 = 215) (hs : sgI S + 1 ≤ sgI X) (he : eI S ≤ eI X) : RWI X := by
  refine h.srt (n := c1.1) (a := c1.2.1) n4 cn ha er eo eol e53 ehk ⟨by rw [h305]; decide, by rw [h305]; decide, by rw [h305]; decide, by rw [h305]; decide⟩ ⟨by rw [X0]; decide, by rw [X0]; decide, by rw [X0]; decide, by rw [X0]; decide⟩ ?_ he
  have tn : (cnI S).toNat = c1.1 + 1 := by omega
  have z := h.2.2.2.2.2.2
  rw [tn] at z
  have e2 : SGS S (c1.1 + 1) = SGS S c1.1 + sgn S (rowA S c1.1) := rfl
  have ra : rowA S c1.1 = c1.2.1 := by
    unfold rowA
    rw [ha]
    rfl
  have s0 : sgn S c1.2.1 = 0 := by
    unfold sgn
    rw [h305]
    rfl
  have s1 : sgn X c1.2.1 = 1 := by
    unfold sgn
    rw [X0]
    rfl
  rw [ra, s0] at e2
  rw [s1]
  omega
set_option maxHeartbeats 4000000 in
theorem ct_head {N : Nat} (hN : 1000 ≤ N) {d : Int32} {S : CS} {s V : RS} {a T id : Nat} {Lk : List Nat} {x1 : Int32} {R : Unit × CS} {J0 J1 : Int32 → Int32 → CS → RS → Prop} (hh : ∀ (xb x10 : Int32) (P : CS) (q : RS), HSP N a T xb x10 S P s q → J0 xb x10 P q) (hk : ∀ (xb x10 : Int32) (P R : CS) (q v : RS), J0 xb x10 P q → KSP N T id a xb P R q v → J1 xb x10 R v) (hs : ∀ (xb x10 : Int32) (P R : CS) (q w : RS), J1 xb x10 P q → SSP T P R q w → J0 xb x10 R w) (hv : ENV d S s) (h21 : (S.i 21).toInt ≤ 3 * (s.i 11).toInt) (ts : tpI s = (T : Int)) (k215 : S.i 43 = 215) (hx1 : x1.toNatClampNeg = T) (hid : (s.a 66 T).toNatClampNeg = id) (ch : kch s (s.a 30 id) Lk) (l72 : (Lk = [] → (s.a 72 T).toInt < 0) ∧ ∀ (L0 : List Nat) (j : Nat), Lk = L0 ++ [j] → (s.a 72 T).toInt = (j : Int)) (km : KMK s (S.o a 12) Lk) (e : f_X7_beginCatch N S a = some R) (g : f_X12_catching N (RS.setA s 71 T (s.i 38)) x1 = some V) : (¬ R.2.i 32 = 0 ∧ ¬ V.i 15 = 0) ∨ ∃ (P : CS) (q : RS) (Lc : List Nat) (xb x10 : Int32), J1 xb x10 P q ∧ ENW d P q ∧ CTC a S P ∧ CTR T id s q Lk Lc ∧ KMK q (P.o a 12) Lc ∧ 0 ≤ (q.a 72 T).toInt ∧ ((s.i 11).toInt + 5 ≤ (q.i 11).toInt ∧ phI s + 9 ≤ phI q ∧ (s.i 17).toInt + 3 ≤ (q.i 17).toInt ∧ (q.i 19).toInt = (s.i 19).toInt + 1) ∧ f_X7_beginCatch_80 N P a xb = some R ∧ f_X12_catching_256 N q (s.i 33) = some V := by
  unfold f_X7_beginCatch at e
  obtain ⟨p1, e1, e⟩ := hf_bind e
  obtain ⟨-, e⟩ := hf_ite e
  obtain ⟨p6, e6, e⟩ := hf_bind e
  obtain ⟨-, e⟩ := hf_ite e
  obtain ⟨p11, e11, e⟩ := hf_bind e
  obtain ⟨p15, e15, e⟩ := hf_bind e
  obtain ⟨p19, e19, e⟩ := hf_bind e
  unfold f_X12_catching at g
  obtain ⟨r1, g1, g⟩ := hf_bind g
  obtain ⟨r3, g3, g⟩ := hf_bind g
  have g' : f_X12_catching_18 N N r3.2 x1 (s.i 33) 1 = some V := g
  clear g
  obtain ⟨n1i, n1t, n1a, n1r, n1o, n1ol, n1b, n1l, n1h⟩ := nt_fr e1
  obtain ⟨n6i, n6t, n6a, n6r, n6o, n6ol, n6b, n6l, n6h⟩ := nt_fr e6
  have bs := i20_hw hv.w
  have t21 := hv.t21
  obtain ⟨W, hW⟩ : ∃ W, W = CS.setO p6.2 a 10 p6.1 := ⟨_, rfl⟩
  have Wi : ∀ k : Nat, k ≠ 21 → W.i k = S.i k := fun k hk => by
    rw [hW]
    exact (n6i k hk).trans (n1i k hk)
  have W21 : (W.i 21).toInt = (S.i 21).toInt + 2 := by
    have z : W.i 21 = S.i 21 + 1 + 1 := by
      rw [hW]
      show p6.2.i 21 = _
      rw [n6t]
      show p1.2.i 21 + 1 = _
      rw [n1t]
    have z1 : (S.i 21 + 1).toInt = (S.i 21).toInt + 1 := ad1 (by omega) (by omega)
    rw [z, ad1 (by omega) (by omega), z1]
    omega
  have Wa : ∀ k : Nat, k ≠ 17 → W.a k = S.a k := fun k hk => by
    rw [hW]
    exact (n6a k hk).trans (n1a k hk)
  have Wr : W.r = S.r ∧ W.ol = S.ol ∧ W.b = S.b ∧ W.l = S.l ∧ (W.hs = S.hs ∧ W.L = S.L ∧ W.k = S.k) := by
    rw [hW]
    exact ⟨n6r.trans n1r, n6ol.trans n1ol, n6b.trans n1b, n6l.trans n1l, n6h.1.trans n1h.1, n6h.2.1.trans n1h.2.1, n6h.2.2.trans n1h.2.2⟩
  have Wo : ∀ b : Nat, b ≠ a → W.o b = S.o b := fun b hb => by rw [hW, so_ne hb, n6o, so_ne hb, so_ne hb, n1o]
  have Wk : ∀ k : Nat, k ≠ 0 → k ≠ 8 → k ≠ 10 → W.o a k = S.o a k := fun k h0 h8 h10 => by rw [hW, so_nk h10, n6o, so_nk h8, so_nk h0, n1o]
  have W0 : W.o a 0 = 215 := by rw [hW, so_nk (by decide), n6o, so_nk (by decide), so_at]
  have W8 : W.o a 8 = 1 := by rw [hW, so_nk (by decide), n6o, so_at]
  rw [← hW] at e11
  have hW' := hW
  clear hW
  have ew0 : ENW d S (RS.setA s 71 T (s.i 38)) := hv.w.sa (Or.inr (Or.inr ⟨by decide, by decide⟩))
  have ctr0 : CTR T id s (RS.setA s 71 T (s.i 38)) Lk Lk := by
    refine ⟨⟨ts, fun j hj => ⟨by rw [setA_nk (by decide)], by rw [setA_nk (by decide)], by rw [setA_nk (by decide)], by rw [setA_nk (by decide)], by rw [setA_nk (by decide)], by rw [setA_nk (by decide)], by rw [setA_nk (by decide)], setA_ne (by omega), by rw [setA_nk (by decide)], by rw [setA_nk (by decide)], rfl⟩⟩, fun k k1 k2 k3 k4 => by rw [setA_nk k3], setA_at, ⟨⟨rfl, rfl, rfl, rfl, rfl, rfl, rfl, rfl, rfl, rfl⟩, ⟨rfl, rfl, rfl⟩, fun k hk => setA_nk (by omega)⟩, Int.le_refl _, fun j _ => by rw [setA_nk (by decide)], fun j _ => ⟨by rw [setA_nk (by decide)], fun _ => by rw [setA_nk (by decide)]⟩, ?_, ?_, fun j hj => Or.inl hj, Or.inl (by rw [setA_nk (by decide)])⟩
    · rw [setA_nk (by decide)]
      have h37 : (RS.setA s 71 T (s.i 38)).a 37 = s.a 37 := setA_nk (by decide)
      exact kch.eq (s := s) (u := RS.setA s 71 T (s.i 38)) rfl h37 ch
    · rw [setA_nk (by decide)]
      exact l72
  have a34 : (RS.setA s 71 T (s.i 38)).a 34 = s.a 34 := setA_nk (by decide)
  have ew1 : ENW d W (RS.setA s 71 T (s.i 38)) := by
    refine ew0.gx (fun j j21 _ _ _ _ _ _ => Wi j j21) ⟨Wa 0 (by decide), Wa 9 (by decide), Wa 49 (by decide)⟩ Wr.2.2.1 Wr.2.2.2.1 ?_ ⟨by omega, ?_⟩
    · have z := ew0.sj
      unfold SJB at *
      rw [Wi 54 (by decide), Wi 55 (by decide), Wi 38 (by decide)]
      exact z
    · show (W.i 21).toInt ≤ 3 * (s.i 11).toInt + 8
      omega
  have f1 : (s.i 11).toInt = ((RS.setA s 71 T (s.i 38)).i 11).toInt := rfl
  have f17 : (s.i 17).toInt = ((RS.setA s 71 T (s.i 38)).i 17).toInt := rfl
  have f20 : (s.i 20).toInt = ((RS.setA s 71 T (s.i 38)).i 20).toInt := rfl
  have f19 : (s.i 19).toInt = ((RS.setA s 71 T (s.i 38)).i 19).toInt := rfl
  obtain ⟨s1, hs1⟩ : ∃ y, y = RS.setA s 71 T (s.i 38) := ⟨_, rfl⟩
  rw [← hs1] at ew1 ctr0 g1 f1 f17 f20 f19 a34
  have qs1 : qe s1 = qe s := by rw [hs1]; rfl
  have s172 : s1.a 72 T = s.a 72 T := by rw [hs1, setA_nk (by decide)]
  have s138 : s1.i 38 = s.i 38 := by rw [hs1]; rfl
  have s140 : s1.a 40 = s.a 40 := by rw [hs1, setA_nk (by decide)]
  clear hs1 ew0
  have k43 : W.i 43 = 215 := (Wi 43 (by decide)).trans k215
  obtain ⟨b1, b2, b3, b4, b5, b6, b7, b8, b9, b10, b11, b12⟩ := ew1.adv hN (by rw [k43]; decide) e11 g1
  have lc : LC W := ew1.1.2.2.2.2.2.2.1
  have l2 := lc.2.2.2.2.2.1 (Or.inl (by rw [k43]; decide))
  have ad := b11.2.2.1
  have k44 := ew1.1.2.2.2.1.1
  have k44' := b1.1.2.2.2.1.1
  rw [k44] at l2
  rw [k44'] at ad
  rcases w_open hN b1 (c := 40) (d := 40) (Or.inl ⟨by decide, by decide⟩) (by decide) (by decide) (by decide) e15 g3 with ⟨o1, o2, o3⟩ | ⟨o1, o2, o3, o4, o5, o6, o7, o8, o9, o10, o11, o12, o13, o14⟩
  · have z1 : ¬ p19.2.i 32 = 0 := by rw [kF_X7_caughtKind N p15.2 a _ p19 e19 o2]; exact o2
    refine Or.inl ⟨?_, krf_f_X12_catching_18 N N r3.2 x1 _ 1 V g' o3⟩
    rw [kF_X7_beginCatch_52 N N p19.2 a _ _ R e z1]
    exact z1
  have ctc0 : CTC a S W := ⟨⟨Wi 22 (by decide), Wi 38 (by decide), Wi 50 (by decide), Wi 53 (by decide), Wi 54 (by decide), Wi 55 (by decide), Wi 56 (by decide)⟩, W21, ⟨Wr.1, Wr.2.1, Wr.2.2.2.2⟩, ⟨Wa 18 (by decide), Wa 52 (by decide)⟩, Wo, fun k k0 k8 k10 _ => Wk k k0 k8 k10, W0, W8⟩
  have ctc : CTC a S p15.2 := (ctc0.pj b3 b8 b9.1).pj o5 o10 o11.1
  have ctr : CTR T id s r3.2 Lk Lk := (ctr0.qj b2 b6 b7).qj o4 o8 o9
  have km0 : KMK r3.2 (p15.2.o a 12) Lk := by
    have eo1 : p11.2.o = W.o := (pj_eq b3).2.2.2.2.2.2.2.2.2.2.2.2.2.2.2.2.2.2.2.2.2.2.2.2.1
    have eo2 : p15.2.o = p11.2.o := (pj_eq o5).2.2.2.2.2.2.2.2.2.2.2.2.2.2.2.2.2.2.2.2.2.2.2.2.1
    unfold KMK at *
    rw [qj_a o4 34 (by decide), qj_a b2 34 (by decide), a34, eo2, eo1, Wk 12 (by decide) (by decide) (by decide)]
    exact km
  obtain ⟨m, hm⟩ : ∃ m, N = m + 1 := ⟨N - 1, by omega⟩
  have g2 : f_X12_catching_18 N (m + 1) r3.2 x1 (s.i 33) 1 = some V := by
    rw [← hm]
    exact g'
  have ph1 : phI s + 3 ≤ phI r1 := by
    unfold phI
    rw [b6]
    omega
  have ph3 : phI r1 + 3 ≤ phI r3.2 := by
    unfold phI
    rw [o8]
    omega
  have w19 : (r1.i 19).toInt = (s.i 19).toInt := by rw [b10, f19]
  rcases ct_kind hN ctc ctr o3 km0 hx1 hid e19 g2 with ⟨z1, z2⟩ | ⟨v, n, c1, c2, c3, c4, ⟨c5, c6, c7, c8, ck⟩, c9⟩
  · refine Or.inl ⟨?_, z2⟩
    rw [kF_X7_beginCatch_52 N N p19.2 a _ _ R e z1]
    exact z1
  have bv := (i20_hw o3).2
  have h900 := (i11_hi hv).2
  have k44s := hv.1.2.2.2.1.1
  have k44p := o3.1.2.2.2.1.1
  have w44 : W.i 44 = S.i 44 := Wi 44 (by decide)
  have hsp : HSP N a T p1.1 p6.1 S p15.2 s r3.2 := by
    refine ⟨p1, p6, p11, p15, e1, e6, by rw [← hW']; exact e11, e15, ⟨rfl, rfl, rfl⟩, ⟨by rw [← hW']; exact b3, o5⟩, ⟨by rw [k44s]; exact h900, by rw [k44s, k44']; omega, by rw [k44', k44p]; exact o7⟩, ⟨(kre_f_X12_open N r1 40 r3 g3).trans ((kre_f_X12_next N s1 r1 g1).trans qs1), ?_, ?_, ?_⟩, by omega⟩
    · rw [(FRB.of o4 : FRB (T + 1) r1 r3.2).all 72 (by decide) (by decide), (FRB.of b2 : FRB (T + 1) s1 r1).all 72 (by decide) (by decide), s172]
    · rw [(qj_eq o4).2.2.2.2.2.2.2.1, (qj_eq b2).2.2.2.2.2.2.2.1, s138]
    · rw [qj_a o4 40 (by decide), qj_a b2 40 (by decide), s140]
  rcases ct_loop (J0 := J0 p1.1 p6.1) (J1 := J1 p1.1 p6.1) hN (fun P R q v => hk p1.1 p6.1 P R q v) (fun P R q w => hs p1.1 p6.1 P R q w) hx1 hid N m p19.2 v (Lk ++ [n]) 0 c2 c3 c1 c4 (hk p1.1 p6.1 p15.2 p19.2 r3.2 v (hh p1.1 p6.1 p15.2 r3.2 hsp) ck) (by rw [z_t0]; exact Int.le_refl _) (by rw [z_t0]; omega) e c9 with f | ⟨P', q', M, d1, d2, d3, d4, ⟨d5, d6, d7, d8, dj⟩, d9, d10⟩
  · exact Or.inl f
  refine Or.inr ⟨P', q', (Lk ++ [n]) ++ M, _, _, dj, d1, d2, d3, d4, ?_, ⟨by omega, by omega, by omega, ?_⟩, d9, d10⟩
  · rcases lst_end ((Lk ++ [n]) ++ M) with z | ⟨L0, l, z⟩
    · have w := congrArg List.length z
      simp at w
    · have w := d3.2.2.2.2.2.2.2.2.1.2 L0 l z
      omega
  · rw [d8, c8, o12]
    omega
end
section
/-! both readers: the rows of a catch -/
theorem lv16 {t g : Int32} (ht : NT5 t) (hg : 0 ≤ g.toInt ∧ g.toInt < 16) : (t * 16 + g) / 16 = t ∧ (t * 16 + g) - (t * 16 + g) / 16 * 16 = g := by
  obtain ⟨t0, t1⟩ := ht
  have e32 : (16 : Int32).toInt = 16 := by decide
  have m1 : (t * 16).toInt = t.toInt * 16 := by
    rw [Int32.toInt_mul, e32, Int.bmod_eq_of_le (by omega) (by omega)]
  have a1 : (t * 16 + g).toInt = t.toInt * 16 + g.toInt := by rw [toInt_add] <;> rw [m1] <;> omega
  have d1 : (t * 16 + g) / 16 = t := by
    refine Int32.toInt_inj.mp ?_
    rw [Int32.toInt_div, a1, e32, Int.tdiv_eq_ediv_of_nonneg (by omega), Int.bmod_eq_of_le (by omega) (by omega)]
    omega
  refine ⟨d1, Int32.toInt_inj.mp ?_⟩
  rw [d1, toInt_sub] <;> rw [a1, m1] <;> omega
/-- the rows of kinds, one behind the other -/
theorem hrw_cat {SF : CS} {U : RS} {AL : Als} {e : Ent} {c : List Ent} {W : Nat} {xb : Int32} {p0 n0 n' pb qb z l w : Nat} {L : List Int32} (mt : MTS SF xb p0 L) (h12 : ∀ y ∈ L, 0 ≤ y.toInt ∧ y.toInt < 12) (nx : NT5 xb) (h34 : ∀ (i : Nat) (x : Int32), L[i]? = some x → U.a 34 (n0 + i) = x) (h35 : ∀ i : Nat, i < L.length → (U.a 35 (n0 + i)).toInt = (qb : Int) ∧ (U.a 36 (n0 + i)).toInt = (l : Int)) (h37 : ∀ i : Nat, i + 1 < L.length → (U.a 37 (n0 + i)).toInt = ((n0 + i + 1 : Nat) : Int)) (ct : (cTg SF xb).toInt = (pb : Int)) (pl : pb < 1199) (c57 : SF.a 15 pb = 57 ∧ (SF.a 16 pb).toInt = (z : Int) ∧ z < 720) (al : AL (pb + 1) qb e.h w 0 ((2, e.h, e.x, e.y, z, l, e.u) :: c)) (wW : w ≤ W) (tl : ∀ i : Nat, i + 1 = L.length → HRW SF U AL e c W n' (p0 + L.length) (U.a 37 (n0 + i))) : ∀ (d i : Nat) (k : Int32), i + (d + 1) = L.length → k.toInt = ((n0 + i : Nat) : Int) → HRW SF U AL e c W (d + 1 + n') (p0 + i) k
  | 0, i, k, hi, hk => by
    have li : i < L.length := by omega
    obtain ⟨x, hx⟩ : ∃ x, L[i]? = some x := ⟨_, List.getElem?_eq_getElem li⟩
    obtain ⟨m1, m2, m3⟩ := mt i x hx
    have xm := h12 x (List.mem_of_getElem? hx)
    obtain ⟨v1, v2⟩ := lv16 nx (g := x) ⟨xm.1, by omega⟩
    have e9 : 0 + 1 + n' = n' + 1 := by omega
    rw [e9]
    refine ⟨m3, Or.inr (Or.inl ⟨m1, n0 + i, pb, qb, z, l, w, hk, ?_, ⟨?_, pl⟩, c57, h35 i li, ⟨al, wW⟩, ?_⟩)⟩
    · rw [m2, h34 i x hx]
      exact v2
    · rw [m2, v1]
      exact ct
    · have := tl i (by omega)
      have e8 : p0 + i + 1 = p0 + L.length := by omega
      rw [e8]
      exact this
  | d + 1, i, k, hi, hk => by
    have li : i < L.length := by omega
    obtain ⟨x, hx⟩ : ∃ x, L[i]? = some x := ⟨_, List.getElem?_eq_getElem li⟩
    obtain ⟨m1, m2, m3⟩ := mt i x hx
    have xm := h12 x (List.mem_of_getElem? hx)
    obtain ⟨v1, v2⟩ := lv16 nx (g := x) ⟨xm.1, by omega⟩
    have e9 : d + 1 + 1 + n' = (d + 1 + n') + 1 := by omega
    rw [e9]
    refine ⟨m3, Or.inr (Or.inl ⟨m1, n0 + i, pb, qb, z, l, w, hk, ?_, ⟨?_, pl⟩, c57, h35 i li, ⟨al, wW⟩, ?_⟩)⟩
    · rw [m2, h34 i x hx]
      exact v2
    · rw [m2, v1]
      exact ct
    · exact hrw_cat mt h12 nx h34 h35 h37 ct pl c57 al wW tl d (i + 1) _ (by omega) (by rw [h37 i (by omega)]; rfl)
/-- both classes: the same code so far -/
def AGCC (S T : CS) : Prop := (T.i 20 = S.i 20 ∧ T.i 21 = S.i 21 ∧ T.i 22 = S.i 22 ∧ T.i 44 = S.i 44) ∧ T.a 15 = S.a 15 ∧ T.a 16 = S.a 16 ∧ T.a 17 = S.a 17 ∧ T.a 19 = S.a 19
theorem ad_eq {N : Nat} {S : CS} {o x : Int32} {p : Unit × CS} (e : f_X0_add N S o x = some p) : p.2.i 20 = S.i 20 + 1 ∧ (∀ k : Nat, k ≠ 20 → p.2.i k = S.i k) ∧ p.2.a 15 = gPut (S.a 15) 1200 (S.i 20) o ∧ p.2.a 16 = gPut (S.a 16) 1200 (S.i 20) x ∧ (∀ k : Nat, k ≠ 15 → k ≠ 16 → p.2.a k = S.a k) ∧ p.2.o = S.o := by
  unfold f_X0_add at e
  cases e
  exact ⟨ci_at _ _ _, fun k hk => ci_ne _ _ _ hk, rfl, rfl, fun k h1 h2 => (if_neg h2).trans (if_neg h1), rfl⟩
theorem ai_eq {N : Nat} {S : CS} {x : Int32} {p : Unit × CS} (e : f_X0_aim N S x = some p) : p.2.i = S.i ∧ p.2.a 17 = gPut (S.a 17) 1024 x (S.i 20) ∧ (∀ k : Nat, k ≠ 17 → p.2.a k = S.a k) ∧ p.2.o = S.o := by
  unfold f_X0_aim at e
  cases e
  exact ⟨rfl, rfl, fun k h1 => if_neg h1, rfl⟩
theorem AGCC.add {N : Nat} {S T : CS} {o x : Int32} {p p' : Unit × CS} (h : AGCC S T) (e : f_X0_add N S o x = some p) (e' : f_X0_add N T o x = some p') : AGCC p.2 p'.2 := by
  obtain ⟨⟨h1, h2, h3, h4⟩, h5, h6, h7, h8⟩ := h
  obtain ⟨a1, a2, a3, a4, a5, -⟩ := ad_eq e
  obtain ⟨b1, b2, b3, b4, b5, -⟩ := ad_eq e'
  refine ⟨⟨by rw [a1, b1, h1], by rw [a2 21 (by decide), b2 21 (by decide), h2], by rw [a2 22 (by decide), b2 22 (by decide), h3], by rw [a2 44 (by decide), b2 44 (by decide), h4]⟩, by rw [a3, b3, h5, h1], by rw [a4, b4, h6, h1], by rw [a5 17 (by decide) (by decide), b5 17 (by decide) (by decide), h7], by rw [a5 19 (by decide) (by decide), b5 19 (by decide) (by decide), h8]⟩
theorem AGCC.aim {N : Nat} {S T : CS} {x : Int32} {p p' : Unit × CS} (h : AGCC S T) (e : f_X0_aim N S x = some p) (e' : f_X0_aim N T x = some p') : AGCC p.2 p'.2 := by
  obtain ⟨⟨h1, h2, h3, h4⟩, h5, h6, h7, h8⟩ := h
  obtain ⟨a1, a2, a3, -⟩ := ai_eq e
  obtain ⟨b1, b2, b3, -⟩ := ai_eq e'
  refine ⟨⟨by rw [a1, b1, h1], by rw [a1, b1, h2], by rw [a1, b1, h3], by rw [a1, b1, h4]⟩, by rw [a3 15 (by decide), b3 15 (by decide), h5], by rw [a3 16 (by decide), b3 16 (by decide), h6], by rw [a2, b2, h7, h1], by rw [a3 19 (by decide), b3 19 (by decide), h8]⟩
end
