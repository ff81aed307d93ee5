/-! both readers: a catch more at the row on top -/
/-- s, but the kinds that are caught are those of q -/
def gKT (s q : RS) (T : Nat) : RS := (va_up s.i 33 (q.i 33), s.l, va_up (va_up (va_up (va_up s.a 30 (q.a 30)) 34 (q.a 34)) 37 (q.a 37)) 72 (upd (s.a 72) T (q.a 72 T)), s.b)
theorem gKT.n {s q : RS} {T : Nat} : (∀ k : Nat, k ≠ 33 → (gKT s q T).i k = s.i k) ∧ (gKT s q T).i 33 = q.i 33 ∧ (gKT s q T).l = s.l ∧ (gKT s q T).b = s.b := ⟨fun _ h => if_neg h, rfl, rfl, rfl⟩
theorem gKT.t {s q : RS} {T : Nat} : (∀ k : Nat, k ≠ 30 → k ≠ 34 → k ≠ 37 → k ≠ 72 → (gKT s q T).a k = s.a k) ∧ (gKT s q T).a 30 = q.a 30 ∧ (gKT s q T).a 34 = q.a 34 ∧ (gKT s q T).a 37 = q.a 37 ∧ (gKT s q T).a 72 T = q.a 72 T ∧ ∀ j : Nat, j ≠ T → (gKT s q T).a 72 j = s.a 72 j := ⟨fun _ h1 h2 h3 h4 => (if_neg h4).trans ((if_neg h3).trans ((if_neg h2).trans (if_neg h1))), rfl, rfl, rfl, (show upd (s.a 72) T (q.a 72 T) T = q.a 72 T from if_pos rfl), fun j h => (show upd (s.a 72) T (q.a 72 T) j = s.a 72 j from if_neg h)⟩
def KTL (T id : Nat) (k0 : Int) (s v : RS) : Prop := (∀ k : Nat, k ≠ 33 → v.i k = s.i k) ∧ v.l = s.l ∧ v.b = s.b ∧ (∀ k : Nat, k ≠ 30 → k ≠ 34 → k ≠ 37 → k ≠ 72 → v.a k = s.a k) ∧ (s.i 33).toInt ≤ (v.i 33).toInt ∧ (∀ j : Nat, j ≠ id → v.a 30 j = s.a 30 j) ∧ (∀ j : Nat, (j : Int) < k0 → v.a 34 j = s.a 34 j ∧ v.a 37 j = s.a 37 j) ∧ (∀ j : Nat, j ≠ T → v.a 72 j = s.a 72 j)
theorem kch.kt {s v : RS} {k0 : Int} (h33 : (s.i 33).toInt ≤ (v.i 33).toInt) (h37 : ∀ j : Nat, (j : Int) < k0 → v.a 37 j = s.a 37 j) : ∀ (L : List Nat) (k : Int32), kch s k L → (∀ j ∈ L, (j : Int) < k0) → kch v k L
  | [], _, g, _ => g
  | j :: L, _, g, b => ⟨g.1, by have := g.2.1; omega, g.2.2.1, by rw [h37 j (b j List.mem_cons_self)]; exact kch.kt h33 h37 L _ g.2.2.2 (fun i hi => b i (List.mem_cons_of_mem _ hi))⟩
theorem kch.uq {s : RS} : ∀ (L M : List Nat) (k : Int32), kch s k L → kch s k M → L = M
  | [], [], _, _, _ => rfl
  | [], j :: M, k, g, h => by
    have h1 := h.1
    have g1 : k.toInt < 0 := g
    omega
  | j :: L, [], k, g, h => by
    have h1 := g.1
    have g1 : k.toInt < 0 := h
    omega
  | j :: L, i :: M, k, g, h => by
    have e : j = i := by
      have := g.1
      have := h.1
      omega
    have h4 := h.2.2.2
    rw [← e] at h4
    rw [kch.uq L M _ g.2.2.2 h4, e]
theorem RFR.kt {S : CS} {s v : RS} {a t g w T id : Nat} {k0 : Int} (h : KTL T id k0 s v) (ht : ¬ t = T) (r : RFR S s a t g w) : RFR S v a t g w := by
  have f := h.2.2.2.1
  have e72 := h.2.2.2.2.2.2.2 t ht
  have f64 := f 64 (by decide) (by decide) (by decide) (by decide)
  have f65 := f 65 (by decide) (by decide) (by decide) (by decide)
  have f66 := f 66 (by decide) (by decide) (by decide) (by decide)
  have f67 := f 67 (by decide) (by decide) (by decide) (by decide)
  have f68 := f 68 (by decide) (by decide) (by decide) (by decide)
  have f71 := f 71 (by decide) (by decide) (by decide) (by decide)
  have f73 := f 73 (by decide) (by decide) (by decide) (by decide)
  have f44 := f 44 (by decide) (by decide) (by decide) (by decide)
  have f57 := f 57 (by decide) (by decide) (by decide) (by decide)
  have f58 := f 58 (by decide) (by decide) (by decide) (by decide)
  have i29 := h.1 29 (by decide)
  have eb := h.2.2.1
  clear f h
  unfold RFR F301 F302 F303 F203 F204 F205 F206 F207 F304 F212 F301 F218 FTR FTS F301 FBL at *
  rw [f64, f65, f66, f67, f68, f71, e72, f73, f44, f57, f58, i29, eb]
  exact r
theorem CST.kt {S : CS} {s v : RS} {c : CEL} {m e k m' e' k' k0 : Int} {T id : Nat} (h : KTL T id k0 s v) (ht : ¬ ceT c = T) (hid : isTy (S.o c.2.1 0) → ¬ (s.a 66 (ceT c)).toNatClampNeg = id) (hk : k ≤ k0) (g : CST S s c m e k m' e' k') : CST S v c m e k m' e' k' := by
  obtain ⟨g1, g2, g3, g4, g5, g6, g7⟩ := g
  have f := h.2.2.2.1
  have f22 := f 22 (by decide) (by decide) (by decide) (by decide)
  have f25 := f 25 (by decide) (by decide) (by decide) (by decide)
  have f27 := f 27 (by decide) (by decide) (by decide) (by decide)
  have f28 := f 28 (by decide) (by decide) (by decide) (by decide)
  have f66 := f 66 (by decide) (by decide) (by decide) (by decide)
  have f67 := f 67 (by decide) (by decide) (by decide) (by decide)
  refine ⟨g1, g2, g3.kt h ht, g4, fun q => ?_, g6, fun q => ?_⟩
  · obtain ⟨x1, x2, x3, L, y1, y2, y3, y4⟩ := g5 q
    rw [f66, f22, h.1 20 (by decide)]
    refine ⟨x1, x2, x3, L, ?_, chn.up (by rw [h.1 24 (by decide)]; exact Int.le_refl _) (fun j _ => by rw [f27]) L _ y2, ?_, y4⟩
    · unfold CSM at *
      rw [f28, f25]
      exact y1
    · unfold FQL at *
      rw [f67]
      exact y3
  · obtain ⟨x1, L, y1, y2, y3, y4⟩ := g7 q
    have lo : ∀ j ∈ L, (j : Int) < k0 := fun j hj => by
      have := (y4 j hj).2
      omega
    rw [f66, h.2.2.2.2.2.1 _ (hid q), h.2.2.2.2.2.2.2 _ ht]
    refine ⟨x1, L, kch.kt h.2.2.2.2.1 (fun j hj => (h.2.2.2.2.2.2.1 j hj).2) L _ y1 lo, ⟨fun w hw => ?_, fun j hj => ?_⟩, y3, y4⟩
    · rw [y2.1 w hw]
      constructor
      · intro ⟨j, j1, j2⟩
        exact ⟨j, j1, by rw [(h.2.2.2.2.2.2.1 j (lo j j1)).1]; exact j2⟩
      · intro ⟨j, j1, j2⟩
        exact ⟨j, j1, by rw [(h.2.2.2.2.2.2.1 j (lo j j1)).1] at j2; exact j2⟩
    · rw [(h.2.2.2.2.2.2.1 j (lo j hj)).1]
      exact y2.2 j hj
theorem LOW.kt {S : CS} {s v : RS} {c : CEL} {T id : Nat} {k0 : Int} (h : KTL T id k0 s v) (g : LOW S s c) : LOW S v c := by
  have f := h.2.2.2.1
  have f64 := f 64 (by decide) (by decide) (by decide) (by decide)
  have f65 := f 65 (by decide) (by decide) (by decide) (by decide)
  unfold LOW at *
  rw [f64, f65]
  exact g
theorem STK.kt {S : CS} {s v : RS} {T id : Nat} {k0 : Int} (h : KTL T id k0 s v) : ∀ (L : List CEL) (m e k : Int), STK S s L m e k → k ≤ k0 → (∀ y ∈ L, ¬ ceT y = T ∧ (isTy (S.o y.2.1 0) → ¬ (s.a 66 (ceT y)).toNatClampNeg = id)) → STK S v L m e k
  | [], _, _, _, _, _, _ => trivial
  | c :: L, m, e, k, g, hk, hy => by
    obtain ⟨m', e', k', g1, g2, g3⟩ := g
    have kk : k' ≤ k := by
      by_cases z : isTy (S.o c.2.1 0)
      · exact (g1.2.2.2.2.2.2 z).1
      · rw [g1.2.2.2.2.2.1 z]
        exact Int.le_refl _
    exact ⟨m', e', k', g1.kt h (hy c List.mem_cons_self).1 (hy c List.mem_cons_self).2 hk, fun c0 hc => ⟨(g2 c0 hc).1, (g2 c0 hc).2.kt h⟩, STK.kt h L m' e' k' g3 (by omega) (fun y hy' => hy y (List.mem_cons_of_mem _ hy'))⟩
set_option maxHeartbeats 2000000 in
theorem COR.kat {d : Int32} {B : CS} {b : RS} {t0 : Nat} {L : List CEL} {x : Int} {S W : CS} {s q : RS} {c1 c : CEL} {id : Nat} {Lk Lc : List Nat} (h : COR d B b t0 (c1 :: c :: L) x S s) (tp : TOP S s c1) (bz : BAZ B b (c1 :: c :: L)) (hT : t0 ≤ ceT c1) (h305 : S.o c1.2.1 0 = 305) (hid : (s.a 66 (ceT c1)).toNatClampNeg = id) (hk : kch s (s.a 30 id) Lk) (hr : CTR (ceT c1) id s q Lk Lc) (n72 : 0 ≤ (q.a 72 (ceT c1)).toInt) (km : KMK q (W.o c1.2.1 12) Lc) (Wi : W.i = S.i) (Wa : W.a = S.a) (Wr : W.r = S.r ∧ W.ol = S.ol ∧ W.b = S.b ∧ W.l = S.l ∧ (W.hs = S.hs ∧ W.L = S.L ∧ W.k = S.k)) (Wo : ∀ a : Nat, a ≠ c1.2.1 → W.o a = S.o a) (Wk : ∀ k : Nat, k ≠ 8 → k ≠ 12 → W.o c1.2.1 k = S.o c1.2.1 k) (W8 : W.o c1.2.1 8 = 1) : COR d B b t0 (c1 :: c :: L) x W (gKT s q (ceT c1)) ∧ TOP W (gKT s q (ceT c1)) c1 := by
  have adr := h.adr
  have hinL := h.inlB tp
  have hb := h.b53 tp bz
  obtain ⟨h1, h2, h3, h4, h5, ⟨h6, h7, h8, h9⟩, ⟨h10, h11, h12, hsg⟩, h13, ⟨h14, h15, h16⟩, h17, ⟨h18, h19, h20, col, h21⟩⟩ := h
  have ty : isTy (S.o c1.2.1 0) := Or.inr (Or.inr (Or.inl h305))
  have ngo := ty_ngo ty
  have ek : ∀ k : Nat, k ≠ 8 → k ≠ 12 → ∀ a : Nat, W.o a k = S.o a k := fun k k1 k2 a => by
    by_cases z : a = c1.2.1
    · rw [z]
      exact Wk k k1 k2
    · rw [Wo a z]
  have e0 := ek 0 (by decide) (by decide)
  have e1 := ek 1 (by decide) (by decide)
  have e3 := ek 3 (by decide) (by decide)
  have e14 := ek 14 (by decide) (by decide)
  have e15 := ek 15 (by decide) (by decide)
  have eoL : ∀ y ∈ c :: L, W.o y.2.1 = S.o y.2.1 := fun y hy => Wo y.2.1 (adr y hy)
  obtain ⟨d1, d2⟩ := DSM.eq (c :: L) eoL
  have ord := STK.ord (c :: L) c1 _ _ _ h2
  have ids := h2.ids
  have n218 : ¬ S.o c1.2.1 0 = 218 := fun z => ngo (Or.inr (Or.inl z))
  have n218' : ¬ W.o c1.2.1 0 = 218 := fun z => n218 ((e0 _).symm.trans z)
  have tyW : isTy (W.o c1.2.1 0) := by rw [e0]; exact ty
  have h2' := h2
  obtain ⟨m', e', k', c1s, lkl, stl⟩ := h2'
  obtain ⟨lk, lw⟩ := lkl c rfl
  obtain ⟨s1, s2, s3, s4, s5, s6, s7⟩ := c1s
  obtain ⟨em, ee⟩ := s4 n218
  obtain ⟨x1, Lk', y1, y2, y3, y4⟩ := s7 ty
  rw [hid] at y1
  have eLk : Lk' = Lk := kch.uq _ _ _ y1 hk
  rw [eLk] at y1 y2 y3 y4
  obtain ⟨⟨r1, r2⟩, r3, r4, r5, r6, r7, r8, r9, ⟨r10, r10b⟩, r11, r12⟩ := hr
  have l72 : ∀ j : Nat, (j : Int) < k' → (j : Int) ≠ (s.a 72 (ceT c1)).toInt := fun j hj z => by
    rcases lst_end Lk with w0 | ⟨L0, l, w0⟩
    · have := y3.1 w0
      omega
    · have a := y3.2 L0 l w0
      have bb := (y4 l (by rw [w0]; exact List.mem_append_right _ List.mem_cons_self)).1
      omega
  obtain ⟨vi, v33, vl, vb⟩ := gKT.n (s := s) (q := q) (T := ceT c1)
  obtain ⟨va4, v30, v34, v37, v72, v72'⟩ := gKT.t (s := s) (q := q) (T := ceT c1)
  obtain ⟨v, hv⟩ : ∃ v, v = gKT s q (ceT c1) := ⟨_, rfl⟩
  rw [← hv] at vi v33 vl vb va4 v30 v34 v37 v72 v72' ⊢
  clear hv
  have va : ∀ k : Nat, (k ≠ 30 ∧ k ≠ 34 ∧ k ≠ 37 ∧ k ≠ 72) → v.a k = s.a k := fun k hk => va4 k hk.1 hk.2.1 hk.2.2.1 hk.2.2.2
  have i66 := ids c1 List.mem_cons_self ty
  have cid := clampI i66.1
  rw [hid] at cid
  have kt : KTL (ceT c1) id k' s v := ⟨vi, vl, vb, va4, by rw [v33]; exact r6, fun j hj => by rw [v30]; exact r7 j hj, fun j hj => by
    have z := r8 j (by omega)
    rw [v34, v37]
    exact ⟨z.1, z.2 (l72 j hj)⟩, v72'⟩
  have rwW : RWI W := by
    refine h1.ri.srt (n := c1.1) (a := c1.2.1) s2 tp.1 s1 Wr.1 Wo Wr.2.1 (by rw [Wi]) Wr.2.2.2.2 ⟨by rw [h305]; decide, by rw [h305]; decide, by rw [h305]; decide, by rw [h305]; decide⟩ ⟨by rw [e0, h305]; decide, by rw [e0, h305]; decide, by rw [e0, h305]; decide, by rw [e0, h305]; decide⟩ ?_ ?_
    · have cn : cnI S = (c1.1 : Int) + 1 := tp.1
      have tn : (cnI S).toNat = c1.1 + 1 := by omega
      have z := h1.ri.2.2.2.2.2.2
      rw [tn] at z
      have w2 : SGS S (c1.1 + 1) = SGS S c1.1 + sgn S (rowA S c1.1) := rfl
      have ra : rowA S c1.1 = c1.2.1 := by
        unfold rowA
        rw [s1]
        rfl
      have g0 : sgn S c1.2.1 = 0 := by
        unfold sgn
        rw [h305]
        rfl
      have g1 : sgn W c1.2.1 = 0 := by
        unfold sgn
        rw [e0, h305]
        rfl
      rw [ra, g0] at w2
      rw [g1]
      unfold sgI at *
      rw [Wi]
      omega
    · unfold eI plI
      rw [Wi]
      exact Int.le_refl _
  have phv : phI v = phI s := by
    unfold phI
    rw [vi 17 (by decide), vi 20 (by decide)]
  have evS : ENV d S v := h1.kq (vi 38 (by decide)) (vi 2 (by decide)) (vi 3 (by decide)) (vi 18 (by decide)) (vi 53 (by decide)) (vi 54 (by decide)) (vi 55 (by decide)) (va 1 (by decide)) (va 4 (by decide)) (va 41 (by decide)) (by rw [vb]) (by rw [vb]) (vi 10 (by decide)) (vi 11 (by decide)) (vi 12 (by decide)) (vi 14 (by decide)) (vi 15 (by decide)) (vi 17 (by decide)) (vi 19 (by decide)) vl ⟨by rw [vi 20 (by decide)]; exact h1.2.2.2.2.2.2.1, by rw [phv]; exact h1.2.2.2.2.2.2.2.1⟩ (h1.wp.of (by rw [vi 43 (by decide)]; exact Int.le_refl _) (vi 56 (by decide)) (vi 59 (by decide)) (vi 29 (by decide)) (va 58 (by decide)) (va 62 (by decide)))
  have evW : ENV d W v := evS.gx (fun _ _ _ _ _ _ _ _ => by rw [Wi]) ⟨by rw [Wa], by rw [Wa], by rw [Wa]⟩ Wr.2.2.1 Wr.2.2.2.1 rwW (by
    have z := evS.sj
    unfold SJB at *
    rw [Wi]
    exact z) (by rw [Wi]; exact evS.t21)
  have stW : STK W v (c :: L) m' e' k' := by
    refine STK.kt kt (c :: L) _ _ _ (STK.eo (S := S) (R := W) Wr.1 (by rw [Wa]) (c :: L) _ _ _ (fun y hy => ⟨eoL y hy, by rw [Wr.2.1]⟩) stl) (Int.le_refl _) (fun y hy => ⟨fun z => ?_, fun t z => ?_⟩)
    · have a := (hinL y hy).2.2.1
      have w := wid1 (S.o y.2.1 0)
      omega
    · rw [e0] at t
      have iy := ids y (List.mem_cons_of_mem _ hy) t
      have cy := clampI iy.1
      have lt := h3.2.2.2.2.2.1 y (List.mem_cons_of_mem _ hy) c1 List.mem_cons_self t ty (ord y hy)
      rw [z] at cy
      omega
  have f64 := va 64 (by decide)
  have f65 := va 65 (by decide)
  have f66 := va 66 (by decide)
  have f67 := va 67 (by decide)
  have f68 := va 68 (by decide)
  have f71 := va 71 (by decide)
  have cst : CST W v c1 (W.i 22).toInt (v.i 24).toInt (v.i 33).toInt m' e' k' := by
    have q3 := s3.2.2.2.2.2.2.2.2.2.2.2.2 ty
    refine ⟨by rw [Wr.1]; exact s1, s2, RFR.mTy tyW ⟨⟨by rw [f64]; exact q3.1.1, by rw [f66, vi 29 (by decide)]; exact q3.1.2.1, ⟨?_, Or.inr W8⟩, ?_⟩, ?_⟩, fun _ => ⟨by rw [Wi]; exact em, by rw [vi 24 (by decide)]; exact ee⟩, fun w => absurd w n218', fun w => absurd tyW w, fun _ => ⟨by rw [v33]; omega, Lc, ?_, ?_, ?_, fun j hj => ?_⟩⟩
    · rw [v72]
      exact ⟨fun _ => Or.inr n72, fun _ => W8⟩
    · rw [e0, va 57 (by decide), va 58 (by decide), f66]
      exact q3.1.2.2.2
    · have z := q3.2
      unfold FTS F301 FBL at *
      rw [f64, f65, f66, f68, f71, Wk 0 (by decide) (by decide), Wk 3 (by decide) (by decide), Wk 6 (by decide) (by decide)]
      exact z
    · rw [f66, hid, v30]
      exact r9.eq v33 v37
    · unfold KMK at *
      rw [v34]
      exact km
    · rw [v72]
      exact ⟨r10, r10b⟩
    · have l := kch.lt Lc _ r9 j hj
      rw [v33]
      rcases r11 j hj with z | z
      · exact ⟨(y4 j z).1, l⟩
      · exact ⟨by omega, l⟩
  have lkW : LNK W c1 c := by
    unfold LNK at *
    rw [Wk 0 (by decide) (by decide), Wk 1 (by decide) (by decide), Wk 3 (by decide) (by decide), Wk 14 (by decide) (by decide), eoL c List.mem_cons_self]
    exact lk
  have lwW : LOW W v c := by
    have z := lw.kt kt
    unfold LOW at *
    rw [eoL c List.mem_cons_self]
    exact z
  have jq : JMQ W v (c1 :: c :: L) (b.i 59).toInt (b.i 29).toInt := by
    have f50 := va 50 (by decide)
    have f51 := va 51 (by decide)
    have f60 := va 60 (by decide)
    have f61 := va 61 (by decide)
    have f62 := va 62 (by decide)
    have i59 := vi 59 (by decide)
    unfold JMQ RCD PND SAF INR flg at *
    simp only [e0, e1, e14, e15]
    rw [Wi, Wa, f50, f51, f60, f61, f62, f66, i59]
    exact h3
  have pd : PDM W (c1 :: c :: L) = PDM S (c1 :: c :: L) := by
    have z1 : PDM W (c1 :: c :: L) = dbt (W.o c1.2.1 0) + PDM W (c :: L) := rfl
    have z2 : PDM S (c1 :: c :: L) = dbt (S.o c1.2.1 0) + PDM S (c :: L) := rfl
    rw [z1, z2, e0, d2]
  have ds : DSM W (c1 :: c :: L) = DSM S (c1 :: c :: L) := by
    have z1 : DSM W (c1 :: c :: L) = (nDp (W.o c1.2.1 0) : Int) + DSM W (c :: L) := rfl
    have z2 : DSM S (c1 :: c :: L) = (nDp (S.o c1.2.1 0) : Int) + DSM S (c :: L) := rfl
    rw [z1, z2, e0, d1]
  obtain ⟨a1, a2, a3, p0, p1, p2, p3, p4, p5, p6, p7, p8, p9, p10⟩ := h7
  have b29 := h3.2.2.2.2.1 c1 List.mem_cons_self ty
  refine ⟨⟨evW, stW.push cst lkW lwW, jq, ?_, ?_, ⟨h6.tr (fun j hj => ⟨by rw [f64], by rw [f65], by rw [f66], by rw [f67], by rw [f68], by rw [va 69 (by decide)], by rw [va 70 (by decide)], by rw [f71], v72' j (by omega), by rw [va 73 (by decide)], by rw [vb]⟩), ⟨by rw [vi 38 (by decide)]; exact a1, by rw [vi 43 (by decide)]; exact a2, by rw [vi 56 (by decide)]; exact a3, fun j hj => by rw [vb, va 40 (by decide), va 41 (by decide)]; exact p0 j hj, fun j hj => by rw [vb, va 44 (by decide), va 46 (by decide), va 47 (by decide), va 50 (by decide), va 51 (by decide), va 48 (by decide), va 49 (by decide)]; exact p1 j hj, fun j hj => by rw [va 57 (by decide), va 58 (by decide)]; exact p2 j hj, by rw [vi 59 (by decide)]; exact p3, fun j hj => by rw [va 60 (by decide), va 61 (by decide), va 62 (by decide)]; exact p4 j hj, by rw [vi 29 (by decide)]; exact p5, fun j hj => ?_, by rw [v33]; omega, fun j hj => ?_, by rw [vi 24 (by decide)]; exact p9, fun j hj => by rw [va 25 (by decide), va 27 (by decide), va 28 (by decide)]; exact p10 j hj⟩, ⟨by rw [vi 20 (by decide)]; exact h8.1, fun j hj => by rw [va 22 (by decide)]; exact h8.2 j hj⟩, ⟨(vi 2 (by decide)).trans h9.1, (vi 3 (by decide)).trans h9.2.1, (vi 8 (by decide)).trans h9.2.2.1, (va 1 (by decide)).trans h9.2.2.2.1, (va 4 (by decide)).trans h9.2.2.2.2.1, by rw [vb]; exact h9.2.2.2.2.2⟩⟩, ⟨by rw [vi 11 (by decide)]; exact h10, by rw [pd, phv]; exact h11, by rw [vi 17 (by decide)]; exact h12, by rw [vi 19 (by decide), SSM.eq (c1 :: c :: L) (fun y _ => e0 y.2.1)]; exact hsg⟩, ⟨by rw [Wi, ds]; exact h13.1, fun y hy => by rw [e3, Wi]; exact h13.2.1 y hy, fun y hy z hz l => by rw [e3, e3]; exact h13.2.2.1 y hy z hz l, ?_, fun y hy => ⟨fun t z => ?_, fun t z => ?_⟩⟩, ⟨by rw [Wi, vi 11 (by decide)]; exact h14, by rw [vi 38 (by decide), vi 11 (by decide)]; exact h15, by rw [Wi, vi 11 (by decide)]; exact h16⟩, ?_, h18, h19, h20, col, ?_⟩, by rw [Wi]; exact tp.1, by rw [vi 43 (by decide), e0]; exact tp.2.1, by rw [vi 56 (by decide), e0]; exact tp.2.2⟩
  · have n303 : ¬ S.o c1.2.1 0 = 303 := fun z => ngo (Or.inl z)
    have nl : ¬ (S.o c1.2.1 0 = 205 ∨ S.o c1.2.1 0 = 206 ∨ S.o c1.2.1 0 = 207 ∨ S.o c1.2.1 0 = 304) := by
      rw [h305]
      decide
    unfold LBC at h4 ⊢
    rw [if_neg n303, if_neg nl] at h4
    rw [e0, if_neg n303, if_neg nl]
    exact LBC.mv (c :: L) _ h4 eoL (fun y hy w => by rw [va 46 (by decide)])
  · obtain ⟨b1, b2, b3, b4, b5, b6, b7, b8, b9, b10, b11⟩ := h5
    refine ⟨fun k hk => by rw [Wr.1]; exact b1 k hk, fun k a hk ha => ?_, by rw [Wi]; exact b3, by rw [Wi]; exact b4, fun k hk => by rw [Wa]; exact b5 k hk, by rw [Wi]; exact b6, by rw [Wi]; exact b7, fun k hk => by rw [Wa]; exact b8 k hk, fun k q1 q2 => by rw [Wa]; rw [Wi] at q2; exact b9 k q1 q2, ?_, by rw [Wi]; exact b11⟩
    · have z := b2 k a hk ha
      have e := Wo a (fun w => by
        rw [w] at ha
        have := h1.ri.2.1 k c1.1 c1.2.1 (by have := s2; omega) s2 ((b1 k hk).trans ha) s1
        omega)
      exact ⟨e.trans z.1, by rw [Wr.2.1]; exact z.2⟩
    · unfold RTE at *
      rw [Wi]
      exact b10
  · rw [v30, r7 j (by omega)]
    exact p6 j hj
  · have z := r8 j (by omega)
    rw [v34, v37]
    refine ⟨z.1.trans (p8 j hj).1, (z.2 (fun y => ?_)).trans (p8 j hj).2⟩
    have := (h13.2.2.2.2 c1 List.mem_cons_self).1 ty (by omega)
    omega
  · have z := h13.2.2.2.1
    have w1 : cfl S (c1 :: c :: L) (S.i 22).toInt = cfl S (c :: L) (if S.o c1.2.1 0 = 218 then (S.o c1.2.1 13).toInt else (S.i 22).toInt) := rfl
    have w2 : cfl W (c1 :: c :: L) (W.i 22).toInt = cfl W (c :: L) (if W.o c1.2.1 0 = 218 then (W.o c1.2.1 13).toInt else (W.i 22).toInt) := rfl
    rw [w1, if_neg n218] at z
    rw [w2, if_neg n218', cfl.eq (c :: L) _ eoL, Wi]
    exact z
  · rw [e0] at t
    rcases List.mem_cons.mp hy with w | hy2
    · rw [w] at z ⊢
      rw [v72] at z ⊢
      rcases r12 with r | r
      · rw [r] at z ⊢
        exact (h13.2.2.2.2 c1 List.mem_cons_self).1 ty z
      · omega
    · have ne : ¬ ceT y = ceT c1 := fun w => by
        have a := (hinL y hy2).2.2.1
        have w1 := wid1 (S.o y.2.1 0)
        omega
      rw [v72' _ ne] at z ⊢
      exact (h13.2.2.2.2 y hy).1 t z
  · rw [e0] at t
    rw [f67] at z ⊢
    exact (h13.2.2.2.2 y hy).2 t z
  · unfold IAR at *
    rw [Wi, Wr.1, vi 43 (by decide), va 44 (by decide)]
    exact h17
  · have f22 := va 22 (by decide)
    have f48 := va 48 (by decide)
    have f49 := va 49 (by decide)
    have i20 := vi 20 (by decide)
    unfold COL PLF at *
    simp only [e0]
    rw [f22, f48, f49, f66, f67, f68, i20]
    exact h21
