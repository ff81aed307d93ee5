theorem RM.of {s σ τ : RS} {g : Gh} : ∀ {rs : List Rec}, (∀ i : Nat, i < rs.length → ∀ k : Nat, 100 ≤ k → k ≤ 109 → gv τ k i = gv σ k i) → RM s σ g rs → RM s τ g rs
  | [], _, _ => trivial
  | r :: rs, h, hr => by
    have e := fun (k : Nat) (h1 : 100 ≤ k) (h2 : k ≤ 109) => h rs.length (Nat.lt_succ_self _) k h1 h2
    refine ⟨?_, RM.of (fun i hi => h i (Nat.lt_succ_of_lt hi)) hr.2⟩
    have h1 := hr.1
    unfold RM1 PEND at *
    rw [e 100 (by decide) (by decide), e 101 (by decide) (by decide), e 102 (by decide) (by decide), e 103 (by decide) (by decide), e 104 (by decide) (by decide), e 105 (by decide) (by decide), e 106 (by decide) (by decide), e 107 (by decide) (by decide), e 109 (by decide) (by decide)]
    exact h1
theorem JMP.pop {s : RS} {g : Gh} {v : Nat} {kk x : Int} {d h o : Nat} {r : Rec} {rs : List Rec} (hj : JMP s g v kk x d h o (r :: rs)) (hd : ¬ rs.length + 1 ≤ d) (hc : r.k = 4 → r.p < 2 → 0 ≤ gv s 31 r.a → r.ps = true) : JMP s g v kk x d h r.o rs := by
  obtain ⟨h1, v', h2, h3, h4⟩ := hj
  refine ⟨by omega, v', h2, ?_, fun ha => ?_⟩
  · rcases h3 with h3 | h3
    · exact absurd h3 hd
    · exact h3.2.2
  · have := h4 (Or.inr ⟨hc, ha⟩)
    have eo : oA d o (r :: rs) = oA d r.o rs := if_neg hd
    have ed : dA d (r :: rs) = dA d rs := if_neg hd
    rw [eo, ed] at this
    exact this
theorem JMP.pend {s : RS} {g : Gh} {v : Nat} {kk x : Int} {d h o : Nat} {r : Rec} {rs : List Rec} (hj : JMP s g v kk x d h o (r :: rs)) (hd : ¬ rs.length + 1 ≤ d) (hk : r.k = 4) (hp : r.ps = true) : JMP s g r.v (gv s 32 r.a) x d r.h r.o rs := by
  obtain ⟨h1, v', h2, h3, h4⟩ := hj
  rcases h3 with h3 | ⟨-, h5, h6⟩
  · exact absurd h3 hd
  · obtain ⟨e, h7⟩ := h5 hk
    rw [e]
    refine ⟨by omega, v', h7, h6, fun ha => ?_⟩
    have := h4 (Or.inr ⟨fun _ _ _ => hp, ha⟩)
    have eo : oA d o (r :: rs) = oA d r.o rs := if_neg hd
    have ed : dA d (r :: rs) = dA d rs := if_neg hd
    rw [eo, ed] at this
    exact this
theorem YOK.pop {d : Int} {r : Rec} {rs : List Rec} (h : YOK d (r :: rs)) (hd : ¬ rs.length + 1 ≤ d.toNat) : YOK d rs := by
  obtain ⟨h1, q, qs, h2, h3, h4⟩ := h
  have ed : dA d.toNat (r :: rs) = dA d.toNat rs := if_neg hd
  rw [ed] at h2
  exact ⟨h1, q, qs, h2, h3, h4⟩
/-- how what leaves stands, with these records -/
def TR (s σ : RS) (g : Gh) (k v h o : Nat) (rs : List Rec) : Prop := (σ.i 110 = 1 ∧ 0 ≤ (σ.i 112).toInt ∧ (σ.i 93).toInt = h ∧ JMP s g v ((k : Int) + 1) (σ.i 111).toInt (σ.i 112).toInt.toNat h o rs) ∨ σ.i 110 = 2 ∨ (σ.i 110 = 3 ∧ 0 ≤ (σ.i 114).toInt ∧ (σ.i 114).toInt < 3200) ∨ (σ.i 110 = 4 ∧ YOK (σ.i 112).toInt rs)
def LV (s σ : RS) (g : Gh) (k v h o : Nat) (rs : List Rec) : Prop := RX s σ ∧ RB σ ∧ RD σ g ∧ (σ.i 99).toInt = rs.length ∧ rs.length ≤ 250 ∧ RM s σ g rs ∧ recsOK s g k v rs ∧ (σ.i 97).toInt = wv rs ∧ 0 ≤ (σ.i 95).toInt ∧ (σ.i 95).toInt ≤ o ∧ o ≤ 450 ∧ oOK o rs ∧ TR s σ g k v h o rs
/-- what leave gives -/
def LO (s σ R : RS) (g : Gh) (k v : Nat) : Prop := RX s R ∧ RB R ∧ RD R g ∧ R.i 80 = σ.i 80 ∧ OUT s R g v ((k : Int) + 1) ∧ (R.i 115 = σ.i 115 ∨ ((R.i 92).toInt < 0 ∧ (R.i 115 = 3 → 0 ≤ (R.i 114).toInt ∧ (R.i 114).toInt < 3200)))
theorem catch_loop {N : Nat} (hN : 1000 ≤ N) {s σ : RS} {g : Gh} (hX : RX s σ) (hW : WT s g) (hB : RB σ) (hD : RD σ g) {x1 : Int32} (hx : ib x1 300) (t0 : 0 ≤ (σ.i 114).toInt) (t1 : (σ.i 114).toInt < 3200) {k0 : Int} (hsl : ∀ j : Nat, catchIn s j 400 k0 → 0 ≤ gv s 36 j ∧ gv s 36 j < 460) :
    ∀ (n m : Nat) (k : Int32), k.toInt < (s.i 33).toInt → (∀ j : Nat, catchIn s j m k.toInt → catchIn s j 400 k0) → (0 ≤ k.toInt → 400 - k.toInt ≤ m) → 1 ≤ n → (0 ≤ k.toInt → (s.i 33).toInt - k.toInt < n) → ok (f_X12_isCaught_12 N n σ x1 k) (fun R => (R.1 = 0 ∧ R.2 = σ) ∨ (¬ R.1 = 0 ∧ ∃ j : Nat, catchIn s j 400 k0 ∧ R.2 = ((((σ.setA 84 (σ.a 36 j).toNatClampNeg (σ.i 114)).setA 102 x1.toNatClampNeg 1).setI 93 (σ.a 104 x1.toNatClampNeg)).setI 92 (σ.a 35 j))))
  | 0, _, _, _, _, _, h1, _ => by omega
  | n+1, m, k, hk, hm, hm4, hn1, hn => by
    show ok (b_X12_isCaught_12 N (f_X12_isCaught_12 N n) σ x1 k) _
    unfold b_X12_isCaught_12
    have hW0 := hW
    obtain ⟨-, -, w3, -, w5, -, -, -, -, -, -⟩ := hW
    refine ok_ite (fun c => ok_some (Or.inl ⟨rfl, rfl⟩)) (fun c => ?_)
    have hk0 : 0 ≤ k.toInt := by have := le_int (Int32.not_lt.mp c); rw [z_t0] at this; exact this
    have hn := hn hk0
    have hm4 := hm4 hk0
    refine ok_chk ⟨t0, t1⟩ (ok_chk ⟨hk0, by omega⟩ ?_)
    have ec := clampI hk0
    have et := clampI t0
    have hkind : σ.a 86 (σ.i 114).toNatClampNeg < σ.i 3 := by
      rw [Int32.lt_iff_toInt_lt]
      exact hD.2.2.2.2.2.2 (σ.i 114).toNatClampNeg (by omega)
    obtain ⟨m', rfl⟩ : ∃ m', m = m' + 1 := ⟨m - 1, by omega⟩
    have hself : catchIn s k.toNatClampNeg 400 k0 := hm _ ⟨hk0, Or.inl ec.symm⟩
    refine ok_bind (p_isUnder (by omega) σ _ _ hB hkind) (fun p hp => ?_)
    obtain ⟨p1, p2⟩ := p
    simp only at hp
    subst hp
    refine ok_ite (fun c2 => ?_) (fun c2 => ?_)
    · have e37 : (p2.a 37 k.toNatClampNeg).toInt = gv s 37 k.toNatClampNeg := gv_of (hX.2.2.2 37 (by decide)) _
      have hnx := w5 k.toNatClampNeg (by omega)
      refine catch_loop hN hX hW0 hB hD hx t0 t1 hsl n m' _ (by rw [e37]; omega) (fun j hj => hm j ⟨hk0, Or.inr ?_⟩) (fun h0 => by rw [e37] at h0 ⊢; omega) (by omega) (fun h0 => by rw [e37] at h0 ⊢; omega)
      rw [e37] at hj
      exact hj
    · have hs := hsl _ hself
      have e36 : (p2.a 36 k.toNatClampNeg).toInt = gv s 36 k.toNatClampNeg := gv_of (hX.2.2.2 36 (by decide)) _
      refine ok_chk ⟨by rw [e36]; exact hs.1, by rw [e36]; exact hs.2⟩ (ok_chk hx (ok_some (Or.inr ⟨(show ¬ (1 : Int32) = 0 by decide), k.toNatClampNeg, hself, rfl⟩)))
theorem p_isCaught {N : Nat} (hN : 1000 ≤ N) {s σ : RS} {g : Gh} (hX : RX s σ) (hW : WT s g) (hB : RB σ) (hD : RD σ g) {x1 : Int32} (hx : ib x1 300) (t0 : 0 ≤ (σ.i 114).toInt) (t1 : (σ.i 114).toInt < 3200) {r : Rec} (hra : gv σ 101 x1.toNatClampNeg = r.a) (hat : (r.a : Int) < (s.i 29).toInt) (hsl : ∀ j : Nat, catchIn s j 400 (gv s 30 r.a) → 0 ≤ gv s 36 j ∧ gv s 36 j < 460) :
    ok (f_X12_isCaught N σ x1) (fun R => (R.1 = 0 ∧ R.2 = σ) ∨ (¬ R.1 = 0 ∧ ∃ j : Nat, catchIn s j 400 (gv s 30 r.a) ∧ R.2 = ((((σ.setA 84 (σ.a 36 j).toNatClampNeg (σ.i 114)).setA 102 x1.toNatClampNeg 1).setI 93 (σ.a 104 x1.toNatClampNeg)).setI 92 (σ.a 35 j)))) := by
  unfold f_X12_isCaught
  have hw := hW
  obtain ⟨-, w2, w3, -, w5, w6, -, -, -, -, -⟩ := hW
  have hr : (σ.a 101 x1.toNatClampNeg).toInt = r.a := hra
  have ea : (σ.a 101 x1.toNatClampNeg).toNatClampNeg = r.a := by
    show (σ.a 101 x1.toNatClampNeg).toInt.toNat = r.a
    rw [hr]; exact Int.toNat_natCast _
  refine ok_chk hx (ok_chk ⟨by rw [hr]; omega, by rw [hr]; omega⟩ ?_)
  rw [ea]
  have e30 : (σ.a 30 r.a).toInt = gv s 30 r.a := gv_of (hX.2.2.2 30 (by decide)) _
  have h6 := w6 r.a hat
  refine catch_loop hN hX hw hB hD hx t0 t1 hsl N 400 _ (by rw [e30]; exact h6) (fun j hj => by rw [e30] at hj; exact hj) (fun h0 => by rw [e30] at h0 ⊢; omega) (by omega) (fun h0 => by rw [e30] at h0 ⊢; omega)

/-- into a finally: how it goes on is kept in the record -/
def FIN (σ : RS) (i : Nat) (w : Int32) : RS := RS.setI (RS.setI (RS.setA (RS.setA (RS.setA (RS.setA (RS.setA (RS.setA σ 105 i (σ.i 110)) 106 i (σ.i 111)) 107 i (σ.i 112)) 108 i (σ.i 113)) 109 i (σ.i 114)) 102 i 2) 93 (σ.a 104 i)) 92 w
theorem e_finals {N : Nat} {σ : RS} {x1 : Int32} {a : Nat} (hx : ib x1 300) (hra : gv σ 101 x1.toNatClampNeg = a) (ha : a < 200) : f_X12_finals N σ x1 = some (if 0 ≤ gv σ 31 a then (1, FIN σ x1.toNatClampNeg (σ.a 31 a)) else (0, σ)) := by
  unfold f_X12_finals
  have hr : (σ.a 101 x1.toNatClampNeg).toInt = a := hra
  have ea : (σ.a 101 x1.toNatClampNeg).toNatClampNeg = a := by
    show (σ.a 101 x1.toNatClampNeg).toInt.toNat = a
    rw [hr]; exact Int.toNat_natCast _
  rw [if_pos hx, if_pos (show ib (σ.a 101 x1.toNatClampNeg) 200 from ⟨by rw [hr]; omega, by rw [hr]; omega⟩), ea]
  have e0 : (0 ≤ σ.a 31 a) ↔ 0 ≤ gv σ 31 a := by
    rw [Int32.le_iff_toInt_le, z_t0]; exact Iff.rfl
  by_cases c : 0 ≤ σ.a 31 a
  · rw [if_pos c, if_pos (e0.mp c)]; rfl
  · rw [if_neg c, if_neg (fun h => c (e0.mpr h))]
def popB (N : Nat) (K : RS → Option RS) (σ : RS) : Option RS :=
  (if (σ.a 100 ((((σ.i 99) - 1) : Int32).toNatClampNeg)) = 1 then (f_X12_row N σ 4 (σ.a 101 ((((σ.i 99) - 1) : Int32).toNatClampNeg))).bind fun p27 => if ib (p27.a 101 ((((σ.i 99) - 1) : Int32).toNatClampNeg)) 8 then K (RS.setI (RS.setA p27 91 (((p27.a 101 ((((σ.i 99) - 1) : Int32).toNatClampNeg)) : Int32).toNatClampNeg) ((p27.a 91 (((p27.a 101 ((((σ.i 99) - 1) : Int32).toNatClampNeg)) : Int32).toNatClampNeg)) - 1)) 99 ((p27.i 99) - 1)) else none else (if (σ.a 100 ((((σ.i 99) - 1) : Int32).toNatClampNeg)) = 2 then K (RS.setI (RS.setI σ 97 (σ.a 101 ((((σ.i 99) - 1) : Int32).toNatClampNeg))) 99 ((σ.i 99) - 1)) else (if (σ.a 100 ((((σ.i 99) - 1) : Int32).toNatClampNeg)) = 4 then (if (σ.a 102 ((((σ.i 99) - 1) : Int32).toNatClampNeg)) = 0 then (f_X12_closeAll N σ ((σ.i 99) - 1)).bind fun p13 => (if (p13.i 110) = 3 then (f_X12_isCaught N p13 ((σ.i 99) - 1)).bind fun p20 => (if p20.1 = 0 then (if 2 ≤ (p20.2.a 102 ((((σ.i 99) - 1) : Int32).toNatClampNeg)) then K (RS.setI p20.2 99 ((p20.2.i 99) - 1)) else (f_X12_finals N p20.2 ((σ.i 99) - 1)).bind fun p24 => (if p24.1 = 0 then K (RS.setI p24.2 99 ((p24.2.i 99) - 1)) else some p24.2)) else some p20.2) else (if 2 ≤ (p13.a 102 ((((σ.i 99) - 1) : Int32).toNatClampNeg)) then K (RS.setI p13 99 ((p13.i 99) - 1)) else (f_X12_finals N p13 ((σ.i 99) - 1)).bind fun p17 => (if p17.1 = 0 then K (RS.setI p17.2 99 ((p17.2.i 99) - 1)) else some p17.2))) else (if 2 ≤ (σ.a 102 ((((σ.i 99) - 1) : Int32).toNatClampNeg)) then K (RS.setI σ 99 ((σ.i 99) - 1)) else (f_X12_finals N σ ((σ.i 99) - 1)).bind fun p10 => (if p10.1 = 0 then K (RS.setI p10.2 99 ((p10.2.i 99) - 1)) else some p10.2))) else K (RS.setI σ 99 ((σ.i 99) - 1)))))
theorem FIN_gv {σ : RS} {i : Nat} {w : Int32} {k j : Nat} (hj : j ≠ i) : gv (FIN σ i w) k j = gv σ k j := by
  unfold gv FIN
  simp only [ra_setI, ra_setA]
  by_cases h2 : k = 102
  · subst h2; simp [upd, hj]
  · by_cases h9 : k = 109
    · subst h9; simp [upd, hj]
    · by_cases h8 : k = 108
      · subst h8; simp [upd, hj]
      · by_cases h7 : k = 107
        · subst h7; simp [upd, hj]
        · by_cases h6 : k = 106
          · subst h6; simp [upd, hj]
          · by_cases h5 : k = 105
            · subst h5; simp [upd, hj]
            · simp [h2, h5, h6, h7, h8, h9]
theorem FIN_X {s σ : RS} {i : Nat} {w : Int32} (h : RX s σ) : RX s (FIN σ i w) :=
  h.tr ((((((((RX.a _ _ _ _ (by decide)).tr (RX.a _ _ _ _ (by decide))).tr (RX.a _ _ _ _ (by decide))).tr (RX.a _ _ _ _ (by decide))).tr (RX.a _ _ _ _ (by decide))).tr (RX.a _ _ _ _ (by decide))).tr (RX.i _ _ _ (by decide))).tr (RX.i _ _ _ (by decide)))
theorem RD.of {σ τ : RS} {g : Gh} (h : RD σ g) (h95 : τ.i 95 = σ.i 95) (h96 : τ.a 96 = σ.a 96) (h84 : τ.a 84 = σ.a 84) (h81 : τ.i 81 = σ.i 81) (h85 : τ.i 85 = σ.i 85) (h80 : τ.i 80 = σ.i 80) (h88 : τ.a 88 = σ.a 88) (h86 : τ.a 86 = σ.a 86) (h3 : τ.i 3 = σ.i 3) : RD τ g := by
  unfold RD gv at *
  rw [h95, h96, h84, h81, h85, h80, h88, h86, h3]
  exact h
theorem RX.B {s σ : RS} (hX : RX s σ) (hB : RB s) : RB σ := RB.of (hX.2.2.1 2 (by decide)) (hX.2.2.1 3 (by decide)) (hX.2.2.2 4 (by decide)) (hX.2.2.2 6 (by decide)) (hX.2.2.2 7 (by decide)) hB
/-- a finally is taken: the place there is as expected -/
theorem fin_out {s σ : RS} {g : Gh} {k v h o : Nat} {r : Rec} {rs : List Rec} {x1 : Int32} (hx1 : x1.toNatClampNeg = rs.length) (hB : RB s) (hX : RX s σ) (hD : RD σ g) (hR : (σ.i 99).toInt = rs.length + 1) (hM : RM s σ g (r :: rs)) (hO : recOK s g k v r rs) (hw : (σ.i 97).toInt = wv (r :: rs)) (h95 : 0 ≤ (σ.i 95).toInt) (h95r : (σ.i 95).toInt ≤ r.o) (hk : r.k = 4) (hp : r.p < 2) (hf : 0 ≤ gv s 31 r.a)
    (hpd : (σ.i 110 = 0 ∧ (r.ps = true → r.ek = true)) ∨ (TR s σ g k v h o (r :: rs) ∧ (σ.i 110 = 1 ∨ σ.i 110 = 4 → ¬ (rs.length : Int) + 1 ≤ (σ.i 112).toInt))) : OUT s (FIN σ x1.toNatClampNeg (σ.a 31 r.a)) g v ((k : Int) + 1) := by
  rw [hx1]
  obtain ⟨o1, o2, o3⟩ := hO
  have o4 : r.k = 4 ∧ (r.a : Int) < (s.i 29).toInt ∧ r.p ≤ 2 ∧ r.v ≤ v ∧ (k : Int) < gv s 32 r.a ∧ (r.p = 0 → ∀ j : Nat, catchIn s j 400 (gv s 30 r.a) → 0 ≤ gv s 36 j ∧ gv s 36 j < 460 ∧ g.isC (gv s 36 j).toNat = true ∧ FL s g v ((k : Int) + 1) (gv s 35 j) r.h r.o (r.ph 1 :: rs)) ∧ (r.p < 2 → 0 ≤ gv s 31 r.a → FL s g v ((k : Int) + 1) (gv s 31 r.a) r.h r.o (r.ph 2 :: rs)) := by
    rcases o3 with q | q | q | q
    · rw [hk] at q; exact absurd q.1 (by decide)
    · rw [hk] at q; exact absurd q (by decide)
    · rw [hk] at q; exact absurd q.1 (by decide)
    · exact q
  have hFL := o4.2.2.2.2.2.2 hp hf
  have e31 : (σ.a 31 r.a).toInt = gv s 31 r.a := gv_of (hX.2.2.2 31 (by decide)) _
  obtain ⟨f1, f2, f3⟩ := hFL
  have epc : ((FIN σ rs.length (σ.a 31 r.a)).i 92).toInt = gv s 31 r.a := e31
  by_cases hc : gv s 31 r.a < cdI s
  · obtain ⟨c, c1, c2, c3, c4, c5, c6⟩ := f3 hc
    refine Or.inr (Or.inr ⟨c, by rw [epc]; exact f1, by rw [epc]; exact c1, ?_, by rw [epc]; exact c6⟩)
    obtain ⟨m1, m2⟩ := hM
    obtain ⟨n1, n2, -, -, -, n6⟩ := m1
    obtain ⟨q1, q2, q3, q4, q5⟩ := n6 hk
    refine ⟨?_, ?_, h95, ?_, ?_, ?_, ?_⟩
    · rw [c2]; exact n2
    · rw [c5]
      show (σ.i 97).toInt = _
      rw [hw]
      unfold wv
      rw [if_neg (by rw [hk]; decide), if_neg (show ¬ (r.ph 2).k = 2 by show ¬ r.k = 2; rw [hk]; decide)]
    · show (σ.i 95).toInt ≤ _
      omega
    · rw [c5]; show (σ.i 99).toInt = _; rw [hR]; rfl
    · rw [c5]
      refine ⟨?_, RM.of (fun i hi k9 _ _ => FIN_gv (by omega)) m2⟩
      have g102 : gv (FIN σ rs.length (σ.a 31 r.a)) 102 rs.length = 2 := by unfold gv FIN; simp only [ra_setI, ra_setA]; simp [upd]
      have g105 : gv (FIN σ rs.length (σ.a 31 r.a)) 105 rs.length = (σ.i 110).toInt := by unfold gv FIN; simp only [ra_setI, ra_setA]; simp [upd]
      have g106 : gv (FIN σ rs.length (σ.a 31 r.a)) 106 rs.length = (σ.i 111).toInt := by unfold gv FIN; simp only [ra_setI, ra_setA]; simp [upd]
      have g107 : gv (FIN σ rs.length (σ.a 31 r.a)) 107 rs.length = (σ.i 112).toInt := by unfold gv FIN; simp only [ra_setI, ra_setA]; simp [upd]
      have g109 : gv (FIN σ rs.length (σ.a 31 r.a)) 109 rs.length = (σ.i 114).toInt := by unfold gv FIN; simp only [ra_setI, ra_setA]; simp [upd]
      have e1 : (1 : Int32).toInt = 1 := by decide
      have e2 : (2 : Int32).toInt = 2 := by decide
      have e3 : (3 : Int32).toInt = 3 := by decide
      have e4 : (4 : Int32).toInt = 4 := by decide
      refine ⟨n1, n2, fun q => absurd q (by show ¬ r.k = 1; rw [hk]; decide), fun q => absurd q (by show ¬ r.k = 2; rw [hk]; decide), fun q => absurd q (by show ¬ r.k = 3; rw [hk]; decide), fun _ => ⟨q1, g102, q3, q4, fun _ => ?_⟩⟩
      unfold PEND
      rw [g105, g106, g107, g109]
      rcases hpd with ⟨d1, d2⟩ | ⟨d1, d2⟩
      · rw [d1, z_t0]
        exact ⟨by decide, by decide, fun hp => ⟨fun _ => d2 hp, fun q => absurd q (by decide), fun q => absurd q (by decide), fun q => absurd q (by decide)⟩⟩
      · rcases d1 with ⟨d3, d4, d5, d6⟩ | d3 | ⟨d3, d4⟩ | ⟨d3, d4⟩
        · rw [d3, e1]
          have hd := d2 (Or.inl d3)
          exact ⟨by decide, by decide, fun hp => ⟨fun q => absurd q (by decide), fun _ => ⟨d4, d6.pend (by omega) hk hp⟩, fun q => absurd q (by decide), fun q => absurd q (by decide)⟩⟩
        · rw [d3, e2]
          exact ⟨by decide, by decide, fun hp => ⟨fun q => absurd q (by decide), fun q => absurd q (by decide), fun q => absurd q (by decide), fun q => absurd q (by decide)⟩⟩
        · rw [d3, e3]
          exact ⟨by decide, by decide, fun hp => ⟨fun q => absurd q (by decide), fun q => absurd q (by decide), fun _ => d4, fun q => absurd q (by decide)⟩⟩
        · rw [d3, e4]
          have hd := d2 (Or.inr d3)
          exact ⟨by decide, by decide, fun hp => ⟨fun q => absurd q (by decide), fun q => absurd q (by decide), fun q => absurd q (by decide), fun _ => d4.pop (by omega)⟩⟩
    · intro q; rw [c4] at q; cases q
  · refine Or.inr (Or.inl ?_)
    rw [epc]; omega
