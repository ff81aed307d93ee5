/-! reading: what stands of the tables, the numbers -/
def tkI (s : RS) : Int := (s.i 17).toInt
def TB1 (s : RS) : Prop := ∀ j : Nat, (j : Int) < enI s → gv s 27 j < 0 ∨ (j : Int) < gv s 27 j ∧ gv s 27 j < enI s
def TB2 (s : RS) : Prop := ∀ j : Nat, (j : Int) < caI s → gv s 37 j < 0 ∨ (j : Int) < gv s 37 j ∧ gv s 37 j < caI s
def TB3 (s : RS) : Prop := ∀ j : Nat, (j : Int) < trI s → gv s 30 j < caI s
def TB4 (s : RS) : Prop := ∀ x : Nat, (x : Int) < seI s → 0 ≤ gv s 40 x ∧ gv s 40 x < slI s ∧ ((∃ j : Nat, (j : Int) < caI s ∧ gv s 36 j = gv s 40 x) ↔ ¬ s.a 41 x = 0)
def TB5 (s : RS) : Prop := ∀ j : Nat, (j : Int) < caI s → 0 ≤ gv s 36 j ∧ gv s 36 j < slI s
def TB6 (s : RS) : Prop := ∀ γ : Nat, (γ : Int) < goI s → 0 ≤ gv s 47 γ ∧ gv s 47 γ ≤ deI s
def TB7 (s : RS) : Prop := ∀ k : Nat, (k : Int) < peI s → 0 ≤ gv s 60 k ∧ gv s 60 k < 460 ∧ (s.a 61 k = 0 ∨ s.a 61 k = 1)
def TB8 (s : RS) : Prop := ∀ w : Nat, (w : Int) < waI s → 0 ≤ gv s 57 w ∧ gv s 57 w < trI s ∧ 0 ≤ gv s 58 w ∧ gv s 58 w ≤ goI s
/-- no place lies in two chains -/
def DJ (s : RS) : Prop := ∀ (γ γ' : Nat) (b b' : Bool) (L L' : List Nat) (x : Nat), (γ : Int) < goI s → (γ' : Int) < goI s → ISCH s (hd s b γ) L → ISCH s (hd s b' γ') L' → x ∈ L → x ∈ L' → γ = γ' ∧ b = b'
def TB9 (s : RS) : Prop := ∀ p : Nat, (p : Int) < peI s → gv s 62 p < trI s
def TBW (s : RS) : Prop := ∀ w w' : Nat, w < w' → (w' : Int) < waI s → gv s 57 w < gv s 57 w'
def PW (s : RS) : Prop := ∀ p w : Nat, (p : Int) < peI s → (w : Int) < waI s → gv s 62 p = gv s 57 w → gv s 60 p < gv s 58 w
def TB0 (s : RS) : Prop := TN s ∧ DJ s ∧ TB9 s ∧ TBW s ∧ PW s
theorem DJ.of {u w : RS} (hn : TN u) (hj : DJ u) (hg : goI w ≤ goI u) (hc : ∀ (γ : Nat) (b : Bool) (L : List Nat), (γ : Int) < goI w → ISCH u (hd u b γ) L → (∀ x ∈ L, (x : Int) < cdI u) → ISCH w (hd w b γ) L) : DJ w := by
  intro γ γ' b b' L L' x h1 h2 h3 h4 h5 h6
  obtain ⟨M, m1, m2⟩ := hn γ b (by omega)
  obtain ⟨M', m1', m2'⟩ := hn γ' b' (by omega)
  have e := ISCH.uniq h3 (hc γ b M h1 m1 m2)
  have e' := ISCH.uniq h4 (hc γ' b' M' h2 m1' m2')
  subst e
  subst e'
  exact hj γ γ' b b' _ _ x (by omega) (by omega) m1 m1' h5 h6
def TAB (s : RS) : Prop := TB0 s ∧ TB1 s ∧ TB2 s ∧ TB3 s ∧ TB4 s ∧ TB5 s ∧ TB6 s ∧ TB7 s ∧ TB8 s ∧ (s.i 75 = 0 ∨ s.i 75 = 1)
/-- the tables and their counters are the same -/
def TBL (u w : RS) : Prop := (∀ k : Nat, k < 64 ∨ 74 ≤ k → w.a k = u.a k) ∧ w.b 9 = u.b 9 ∧ (∀ j : Nat, j < 10 ∨ 20 ≤ j → ¬ (52 ≤ j ∧ j ≤ 55) → j ≠ 63 → j ≠ 75 → w.i j = u.i j)
theorem TBL.rf (s : RS) : TBL s s := ⟨fun _ _ => rfl, rfl, fun _ _ _ _ _ => rfl⟩
theorem TBL.tr {s u w : RS} (h1 : TBL s u) (h2 : TBL u w) : TBL s w := ⟨fun k hk => (h2.1 k hk).trans (h1.1 k hk), h2.2.1.trans h1.2.1, fun j a b c d => (h2.2.2 j a b c d).trans (h1.2.2 j a b c d)⟩
theorem LX.tbl {u w : RS} (h : LX u w) : TBL u w := ⟨fun k _ => by rw [h.1], by rw [h.2.1], fun j a _ _ _ => h.2.2.1 j (by omega) (by omega)⟩
theorem TBL.cd {u w : RS} (h : TBL u w) : cdI w = cdI u := by unfold cdI; rw [h.2.2 20 (by omega) (by omega) (by omega) (by omega)]
theorem TBL.en {u w : RS} (h : TBL u w) : enI w = enI u := by unfold enI; rw [h.2.2 24 (by omega) (by omega) (by omega) (by omega)]
theorem TBL.tt {u w : RS} (h : TBL u w) : trI w = trI u := by unfold trI; rw [h.2.2 29 (by omega) (by omega) (by omega) (by omega)]
theorem TBL.ca {u w : RS} (h : TBL u w) : caI w = caI u := by unfold caI; rw [h.2.2 33 (by omega) (by omega) (by omega) (by omega)]
theorem TBL.se {u w : RS} (h : TBL u w) : seI w = seI u := by unfold seI; rw [h.2.2 38 (by omega) (by omega) (by omega) (by omega)]
theorem TBL.sl {u w : RS} (h : TBL u w) : slI w = slI u := by unfold slI; rw [h.2.2 42 (by omega) (by omega) (by omega) (by omega)]
theorem TBL.go {u w : RS} (h : TBL u w) : goI w = goI u := by unfold goI; rw [h.2.2 43 (by omega) (by omega) (by omega) (by omega)]
theorem TBL.wa {u w : RS} (h : TBL u w) : waI w = waI u := by unfold waI; rw [h.2.2 56 (by omega) (by omega) (by omega) (by omega)]
theorem TBL.pe {u w : RS} (h : TBL u w) : peI w = peI u := by unfold peI; rw [h.2.2 59 (by omega) (by omega) (by omega) (by omega)]
theorem TBL.g {u w : RS} (h : TBL u w) {k : Nat} (hk : k < 64) (i : Nat) : gv w k i = gv u k i := gv_of (h.1 k (Or.inl hk)) i
theorem TBL.isch {u w : RS} (h : TBL u w) {x : Int} {L : List Nat} (hi : ISCH u x L) : ISCH w x L := hi.of (fun y _ => ⟨by rw [h.1 21 (by omega)], by rw [h.1 22 (by omega)]⟩)
theorem TBL.hd {u w : RS} (h : TBL u w) (b : Bool) (γ : Nat) : hd w b γ = hd u b γ := by
  cases b
  · exact h.g (k := 49) (by decide) γ
  · exact h.g (k := 48) (by decide) γ
theorem KP.tbl {t : Nat} {s u w : RS} (h : KP t s u) (hw : TBL u w) (h18 : 0 ≤ u.i 18 → 0 ≤ w.i 18) (hf : ∀ k : Nat, 64 ≤ k → k ≤ 73 → bel k t u w) : KP t s w := by
  obtain ⟨⟨a1, a1'⟩, a2, a3, a4, a5, a6, a7, a8, a9, a10, a11⟩ := h
  have eb : ∀ (k : Nat) (n : Int), k < 64 → bel k n s w = bel k n s u := fun k n hk => by unfold bel; rw [hw.1 k (Or.inl hk)]
  refine ⟨⟨⟨fun j hj => (hw.2.2 j (by omega) (by omega) (by omega) (by omega)).trans (a1.1 j hj), fun k hk => (hw.1 k (by omega)).trans (a1.2.1 k hk), hw.2.1.trans a1.2.2⟩, fun z => h18 (a1' z)⟩, ?_, ?_, ?_, ?_, ?_, ?_, ?_, ?_, ?_, fun k k1 k2 => (a11 k k1 k2).tr (hf k k1 k2) (by omega)⟩
  · unfold KC; rw [hw.cd, eb _ _ (by decide), eb _ _ (by decide), eb _ _ (by decide)]; exact a2
  · unfold KE; rw [hw.en, eb _ _ (by decide), eb _ _ (by decide), eb _ _ (by decide), eb _ _ (by decide)]; exact a3
  · unfold KT; rw [hw.tt, eb _ _ (by decide), eb _ _ (by decide), eb _ _ (by decide)]; exact a4
  · unfold KH; unfold gv; rw [hw.ca, eb _ _ (by decide), eb _ _ (by decide), eb _ _ (by decide), eb _ _ (by decide), hw.sl, hw.1 36 (by decide)]; exact a5
  · unfold KS; rw [hw.se, hw.sl, eb _ _ (by decide), eb _ _ (by decide)]; exact a6
  · unfold KG; rw [hw.go, eb _ _ (by decide), eb _ _ (by decide), hw.1 50 (by decide), hw.1 51 (by decide), hw.1 46 (by decide)]; exact a7
  · intro γ b L hγ hI hL
    obtain ⟨L1, c1, c2⟩ := a8 γ b L hγ hI hL
    exact ⟨L1, by rw [hw.hd]; exact hw.isch c1, by rw [hw.cd]; exact c2⟩
  · unfold KW; rw [hw.wa, eb _ _ (by decide), eb _ _ (by decide)]; exact a9
  · unfold KQ; rw [hw.pe, eb _ _ (by decide), eb _ _ (by decide), eb _ _ (by decide)]; exact a10
theorem TAB.tbl {u w : RS} (h : TAB u) (hw : TBL u w) (hd' : ∀ γ : Nat, (γ : Int) < goI u → gv u 47 γ ≤ deI w) (hr : w.i 75 = 0 ∨ w.i 75 = 1) : TAB w := by
  obtain ⟨a0, a1, a2, a3, a4, a5, a6, a7, a8, -⟩ := h
  obtain ⟨a0, b1, b2, b3, b4⟩ := a0
  refine ⟨⟨?_, DJ.of a0 b1 (by rw [hw.go]; exact Int.le_refl _) (fun γ b L _ h1 _ => by rw [hw.hd]; exact hw.isch h1), ?_, ?_, ?_⟩, ?_, ?_, ?_, ?_, ?_, ?_, ?_, ?_, hr⟩
  · intro γ b hγ
    rw [hw.go] at hγ
    obtain ⟨L, l1, l2⟩ := a0 γ b hγ
    exact ⟨L, by rw [hw.hd]; exact hw.isch l1, by rw [hw.cd]; exact l2⟩
  · intro p hp; rw [hw.pe] at hp; rw [hw.tt, hw.g (by decide)]; exact b2 p hp
  · intro w1 w2 h1 h2; rw [hw.wa] at h2; rw [hw.g (by decide), hw.g (by decide)]; exact b3 w1 w2 h1 h2
  · intro p w1 h1 h2 h3; rw [hw.pe] at h1; rw [hw.wa] at h2; rw [hw.g (by decide), hw.g (by decide)] at h3; rw [hw.g (by decide), hw.g (by decide)]; exact b4 p w1 h1 h2 h3
  · intro j hj; rw [hw.en] at hj ⊢; rw [hw.g (by decide)]; exact a1 j hj
  · intro j hj; rw [hw.ca] at hj ⊢; rw [hw.g (by decide)]; exact a2 j hj
  · intro j hj; rw [hw.tt] at hj; rw [hw.ca, hw.g (by decide)]; exact a3 j hj
  · intro x hx
    rw [hw.se] at hx
    rw [hw.sl, hw.ca, hw.g (by decide), hw.1 41 (by decide)]
    have := a4 x hx
    refine ⟨this.1, this.2.1, ?_⟩
    rw [← this.2.2]
    constructor
    · rintro ⟨j, j1, j2⟩; exact ⟨j, j1, by rw [← j2, hw.g (by decide)]⟩
    · rintro ⟨j, j1, j2⟩; exact ⟨j, j1, by rw [← j2, hw.g (by decide)]⟩
  · intro j hj; rw [hw.ca] at hj; rw [hw.sl, hw.g (by decide)]; exact a5 j hj
  · intro γ hγ; rw [hw.go] at hγ; rw [hw.g (by decide)]; exact ⟨(a6 γ hγ).1, hd' γ hγ⟩
  · intro k hk; rw [hw.pe] at hk; rw [hw.g (by decide), hw.1 61 (by decide)]; exact a7 k hk
  · intro k hk; rw [hw.wa] at hk; rw [hw.tt, hw.go, hw.g (by decide), hw.g (by decide)]; exact a8 k hk
theorem LX.de {u w : RS} (hx : LX u w) : deI w = deI u := by unfold deI; rw [hx.2.2.1 52 (by omega) (by omega)]
theorem TAB.lx {u w : RS} (h : TAB u) (hx : LX u w) : TAB w := h.tbl hx.tbl (fun γ hγ => by rw [hx.de]; exact (h.2.2.2.2.2.2.1 γ hγ).2) (by rw [hx.2.2.1 75 (by omega) (by omega)]; exact h.2.2.2.2.2.2.2.2.2)
/-- the numbers, by the bytes read -/
def NUM (s : RS) : Prop := (0 ≤ op s ∧ op s ≤ 20) ∧ (0 ≤ cdI s ∧ cdI s ≤ 3 * fr s) ∧ (0 ≤ enI s ∧ 2 * enI s ≤ fr s) ∧ (0 ≤ trI s ∧ 6 * trI s ≤ fr s + 3 * op s) ∧ (0 ≤ caI s ∧ 3 * caI s ≤ fr s) ∧ (0 ≤ seI s ∧ seI s ≤ slI s) ∧ 2 * slI s ≤ fr s + 4 ∧ (0 ≤ goI s ∧ 2 * goI s ≤ fr s) ∧ (0 ≤ deI s ∧ 4 * deI s ≤ fr s + 2 * op s + 2) ∧ (0 ≤ waI s ∧ waI s ≤ op s) ∧ (0 ≤ peI s ∧ 3 * peI s ≤ fr s) ∧ (0 ≤ tkI s ∧ tkI s ≤ fr s + 1)
def INV (s : RS) : Prop := LXI s ∧ RB s ∧ s.i 15 = 0 ∧ TAB s ∧ NUM s
/-- what is the same behind an expression -/
def SAME (s u : RS) : Prop := u.i 19 = s.i 19 ∧ u.i 43 = s.i 43 ∧ u.i 52 = s.i 52 ∧ u.i 56 = s.i 56
/-- how much may be added, by the bytes read -/
def RATE (s u : RS) : Prop := cdI u - cdI s ≤ 3 * (fr u - fr s) ∧ 2 * (enI u - enI s) ≤ fr u - fr s ∧ 6 * (trI u - trI s) ≤ fr u - fr s ∧ 3 * (caI u - caI s) ≤ fr u - fr s ∧ 2 * (slI u - slI s) ≤ fr u - fr s ∧ 3 * (peI u - peI s) ≤ fr u - fr s ∧ tkI u - tkI s ≤ fr u - fr s
def FS' (s u : RS) : Prop := ¬ u.i 15 = 0 ∧ K1 s u ∧ (u.i 75 = 0 ∨ u.i 75 = 1)
/-- the labels' loops are the same; just the word true is one push of 1 -/
def JT (s u : RS) : Prop := bel 46 (goI s) s u ∧ (s.i 10 = 432 → tkI u = tkI s + 1 → cdI u = cdI s + 1 ∧ u.a 21 (cdI s).toNat = 2 ∧ u.a 22 (cdI s).toNat = 1)
/-- behind an expression -/
def PE (t : Nat) (s u : RS) : Prop := INV u ∧ tpI u = (t : Int) - 1 ∧ KP t s u ∧ SAME s u ∧ u.i 38 = s.i 38 ∧ RATE s u ∧ fr s + 1 ≤ fr u ∧ tkI s + 1 ≤ tkI u ∧ (¬ 0 ≤ u.i 18 → TE s u) ∧ JT s u
/-- an expression's frame, to its end -/
def RUNE (N : Nat) (K : Int32) (r q e : Int) (b : Nat) : Prop := ∀ (n : Nat) (s : RS) (t : Nat) (P : RS → Prop), INV s → tpI s = t → s.a 64 t = K → s.a 65 t = 0 → 2 * (t : Int) ≤ fr s + 12 * op s + 2 * r → 900 - fr s ≤ b → 36000 + q ≤ n + 40 * fr s → (∀ u, FS' s u → P u) → (∀ (m : Nat) (u : RS), PE t s u → (n : Int) + 40 * fr s + e ≤ m + 40 * fr u → ok (f_X12_parse_10 N m u) P) → ok (f_X12_parse_10 N n s) P
theorem bind_some {α β : Type} (x : Option α) (k : α → Option β) : (x.bind fun p => some p).bind k = x.bind k := by cases x <;> rfl
/-- the loop: a fault, or no frame -/
theorem lp_f {N m : Nat} {u : RS} {P : RS → Prop} (h : ¬ u.i 15 = 0) (hP : P u) (hm : 1 ≤ m) : ok (f_X12_parse_10 N m u) P := by
  obtain ⟨n, rfl⟩ : ∃ n, m = n + 1 := ⟨m - 1, by omega⟩
  show ok (b_X12_parse_10 N (f_X12_parse_10 N n) u) P
  unfold b_X12_parse_10
  exact ok_ite (fun _ => ok_some hP) (fun _ => ok_ite (fun c => absurd c h) (fun _ => ok_some hP))
theorem lp_1 {N m : Nat} {u : RS} {t : Nat} {P : RS → Prop} (ht : tpI u = t) (h9 : t < 1000) (h15 : u.i 15 = 0) (hK : u.a 64 t = 1) (h : ok ((f_X12_list N u (u.i 63)).bind fun p => f_X12_parse_10 N m p) P) : ok (f_X12_parse_10 N (m + 1) u) P := by
  show ok (b_X12_parse_10 N (f_X12_parse_10 N m) u) P
  unfold b_X12_parse_10
  have en : (u.i 63).toNatClampNeg = t := by
    show (u.i 63).toInt.toNat = t
    rw [show (u.i 63).toInt = (t : Int) from ht]; exact Int.toNat_natCast _
  have h0 : ¬ u.i 63 < 0 := fun c => by
    have := lt_int c
    rw [z_t0] at this
    have h2 : (u.i 63).toInt = (t : Int) := ht
    omega
  have hib : ib (u.i 63) 1000 := ⟨by rw [show (u.i 63).toInt = (t : Int) from ht]; omega, by rw [show (u.i 63).toInt = (t : Int) from ht]; omega⟩
  rw [en]
  exact ok_neg h0 (ok_pos h15 (ok_chk hib (ok_pos hK h)))
theorem lp_2 {N m : Nat} {u : RS} {t : Nat} {P : RS → Prop} (ht : tpI u = t) (h9 : t < 1000) (h15 : u.i 15 = 0) (hK : u.a 64 t = 2) (h : ok ((f_X12_stat N u (u.i 63)).bind fun p => f_X12_parse_10 N m p) P) : ok (f_X12_parse_10 N (m + 1) u) P := by
  show ok (b_X12_parse_10 N (f_X12_parse_10 N m) u) P
  unfold b_X12_parse_10
  have en : (u.i 63).toNatClampNeg = t := by
    show (u.i 63).toInt.toNat = t
    rw [show (u.i 63).toInt = (t : Int) from ht]; exact Int.toNat_natCast _
  have h0 : ¬ u.i 63 < 0 := fun c => by
    have := lt_int c
    rw [z_t0] at this
    have h2 : (u.i 63).toInt = (t : Int) := ht
    omega
  have hib : ib (u.i 63) 1000 := ⟨by rw [show (u.i 63).toInt = (t : Int) from ht]; omega, by rw [show (u.i 63).toInt = (t : Int) from ht]; omega⟩
  rw [en]
  exact ok_neg h0 (ok_pos h15 (ok_chk hib (ok_neg (by rw [hK]; decide) (ok_pos hK h))))
theorem lp_3 {N m : Nat} {u : RS} {t : Nat} {P : RS → Prop} (ht : tpI u = t) (h9 : t < 1000) (h15 : u.i 15 = 0) (hK : u.a 64 t = 3) (h : ok ((f_X12_block N u (u.i 63)).bind fun p => f_X12_parse_10 N m p) P) : ok (f_X12_parse_10 N (m + 1) u) P := by
  show ok (b_X12_parse_10 N (f_X12_parse_10 N m) u) P
  unfold b_X12_parse_10
  have en : (u.i 63).toNatClampNeg = t := by
    show (u.i 63).toInt.toNat = t
    rw [show (u.i 63).toInt = (t : Int) from ht]; exact Int.toNat_natCast _
  have h0 : ¬ u.i 63 < 0 := fun c => by
    have := lt_int c
    rw [z_t0] at this
    have h2 : (u.i 63).toInt = (t : Int) := ht
    omega
  have hib : ib (u.i 63) 1000 := ⟨by rw [show (u.i 63).toInt = (t : Int) from ht]; omega, by rw [show (u.i 63).toInt = (t : Int) from ht]; omega⟩
  rw [en]
  exact ok_neg h0 (ok_pos h15 (ok_chk hib (ok_neg (by rw [hK]; decide) (ok_neg (by rw [hK]; decide) (ok_pos hK h)))))
theorem lp_4 {N m : Nat} {u : RS} {t : Nat} {P : RS → Prop} (ht : tpI u = t) (h9 : t < 1000) (h15 : u.i 15 = 0) (hK : u.a 64 t = 4) (h : ok ((f_X12_tell N u (u.i 63)).bind fun p => f_X12_parse_10 N m p) P) : ok (f_X12_parse_10 N (m + 1) u) P := by
  show ok (b_X12_parse_10 N (f_X12_parse_10 N m) u) P
  unfold b_X12_parse_10
  have en : (u.i 63).toNatClampNeg = t := by
    show (u.i 63).toInt.toNat = t
    rw [show (u.i 63).toInt = (t : Int) from ht]; exact Int.toNat_natCast _
  have h0 : ¬ u.i 63 < 0 := fun c => by
    have := lt_int c
    rw [z_t0] at this
    have h2 : (u.i 63).toInt = (t : Int) := ht
    omega
  have hib : ib (u.i 63) 1000 := ⟨by rw [show (u.i 63).toInt = (t : Int) from ht]; omega, by rw [show (u.i 63).toInt = (t : Int) from ht]; omega⟩
  rw [en]
  exact ok_neg h0 (ok_pos h15 (ok_chk hib (ok_neg (by rw [hK]; decide) (ok_neg (by rw [hK]; decide) (ok_neg (by rw [hK]; decide) (ok_pos hK h))))))
theorem lp_5 {N m : Nat} {u : RS} {t : Nat} {P : RS → Prop} (ht : tpI u = t) (h9 : t < 1000) (h15 : u.i 15 = 0) (hK : u.a 64 t = 5) (h : ok ((f_X12_named N u (u.i 63)).bind fun p => f_X12_parse_10 N m p) P) : ok (f_X12_parse_10 N (m + 1) u) P := by
  show ok (b_X12_parse_10 N (f_X12_parse_10 N m) u) P
  unfold b_X12_parse_10
  have en : (u.i 63).toNatClampNeg = t := by
    show (u.i 63).toInt.toNat = t
    rw [show (u.i 63).toInt = (t : Int) from ht]; exact Int.toNat_natCast _
  have h0 : ¬ u.i 63 < 0 := fun c => by
    have := lt_int c
    rw [z_t0] at this
    have h2 : (u.i 63).toInt = (t : Int) := ht
    omega
  have hib : ib (u.i 63) 1000 := ⟨by rw [show (u.i 63).toInt = (t : Int) from ht]; omega, by rw [show (u.i 63).toInt = (t : Int) from ht]; omega⟩
  rw [en]
  exact ok_neg h0 (ok_pos h15 (ok_chk hib (ok_neg (by rw [hK]; decide) (ok_neg (by rw [hK]; decide) (ok_neg (by rw [hK]; decide) (ok_neg (by rw [hK]; decide) (ok_pos hK h)))))))
theorem lp_6 {N m : Nat} {u : RS} {t : Nat} {P : RS → Prop} (ht : tpI u = t) (h9 : t < 1000) (h15 : u.i 15 = 0) (hK : u.a 64 t = 6) (h : ok ((f_X12_ending N u (u.i 63)).bind fun p => f_X12_parse_10 N m p) P) : ok (f_X12_parse_10 N (m + 1) u) P := by
  show ok (b_X12_parse_10 N (f_X12_parse_10 N m) u) P
  unfold b_X12_parse_10
  have en : (u.i 63).toNatClampNeg = t := by
    show (u.i 63).toInt.toNat = t
    rw [show (u.i 63).toInt = (t : Int) from ht]; exact Int.toNat_natCast _
  have h0 : ¬ u.i 63 < 0 := fun c => by
    have := lt_int c
    rw [z_t0] at this
    have h2 : (u.i 63).toInt = (t : Int) := ht
    omega
  have hib : ib (u.i 63) 1000 := ⟨by rw [show (u.i 63).toInt = (t : Int) from ht]; omega, by rw [show (u.i 63).toInt = (t : Int) from ht]; omega⟩
  rw [en]
  exact ok_neg h0 (ok_pos h15 (ok_chk hib (ok_neg (by rw [hK]; decide) (ok_neg (by rw [hK]; decide) (ok_neg (by rw [hK]; decide) (ok_neg (by rw [hK]; decide) (ok_neg (by rw [hK]; decide) (ok_pos hK h))))))))
theorem lp_7 {N m : Nat} {u : RS} {t : Nat} {P : RS → Prop} (ht : tpI u = t) (h9 : t < 1000) (h15 : u.i 15 = 0) (hK : u.a 64 t = 7) (h : ok ((f_X12_throwing N u (u.i 63)).bind fun p => f_X12_parse_10 N m p) P) : ok (f_X12_parse_10 N (m + 1) u) P := by
  show ok (b_X12_parse_10 N (f_X12_parse_10 N m) u) P
  unfold b_X12_parse_10
  have en : (u.i 63).toNatClampNeg = t := by
    show (u.i 63).toInt.toNat = t
    rw [show (u.i 63).toInt = (t : Int) from ht]; exact Int.toNat_natCast _
  have h0 : ¬ u.i 63 < 0 := fun c => by
    have := lt_int c
    rw [z_t0] at this
    have h2 : (u.i 63).toInt = (t : Int) := ht
    omega
  have hib : ib (u.i 63) 1000 := ⟨by rw [show (u.i 63).toInt = (t : Int) from ht]; omega, by rw [show (u.i 63).toInt = (t : Int) from ht]; omega⟩
  rw [en]
  exact ok_neg h0 (ok_pos h15 (ok_chk hib (ok_neg (by rw [hK]; decide) (ok_neg (by rw [hK]; decide) (ok_neg (by rw [hK]; decide) (ok_neg (by rw [hK]; decide) (ok_neg (by rw [hK]; decide) (ok_neg (by rw [hK]; decide) (ok_pos hK h)))))))))
theorem lp_8 {N m : Nat} {u : RS} {t : Nat} {P : RS → Prop} (ht : tpI u = t) (h9 : t < 1000) (h15 : u.i 15 = 0) (hK : u.a 64 t = 8) (h : ok ((f_X12_asserted N u (u.i 63)).bind fun p => f_X12_parse_10 N m p) P) : ok (f_X12_parse_10 N (m + 1) u) P := by
  show ok (b_X12_parse_10 N (f_X12_parse_10 N m) u) P
  unfold b_X12_parse_10
  have en : (u.i 63).toNatClampNeg = t := by
    show (u.i 63).toInt.toNat = t
    rw [show (u.i 63).toInt = (t : Int) from ht]; exact Int.toNat_natCast _
  have h0 : ¬ u.i 63 < 0 := fun c => by
    have := lt_int c
    rw [z_t0] at this
    have h2 : (u.i 63).toInt = (t : Int) := ht
    omega
  have hib : ib (u.i 63) 1000 := ⟨by rw [show (u.i 63).toInt = (t : Int) from ht]; omega, by rw [show (u.i 63).toInt = (t : Int) from ht]; omega⟩
  rw [en]
  exact ok_neg h0 (ok_pos h15 (ok_chk hib (ok_neg (by rw [hK]; decide) (ok_neg (by rw [hK]; decide) (ok_neg (by rw [hK]; decide) (ok_neg (by rw [hK]; decide) (ok_neg (by rw [hK]; decide) (ok_neg (by rw [hK]; decide) (ok_neg (by rw [hK]; decide) (ok_pos hK h))))))))))
theorem lp_9 {N m : Nat} {u : RS} {t : Nat} {P : RS → Prop} (ht : tpI u = t) (h9 : t < 1000) (h15 : u.i 15 = 0) (hK : u.a 64 t = 9) (h : ok ((f_X12_branch N u (u.i 63)).bind fun p => f_X12_parse_10 N m p) P) : ok (f_X12_parse_10 N (m + 1) u) P := by
  show ok (b_X12_parse_10 N (f_X12_parse_10 N m) u) P
  unfold b_X12_parse_10
  have en : (u.i 63).toNatClampNeg = t := by
    show (u.i 63).toInt.toNat = t
    rw [show (u.i 63).toInt = (t : Int) from ht]; exact Int.toNat_natCast _
  have h0 : ¬ u.i 63 < 0 := fun c => by
    have := lt_int c
    rw [z_t0] at this
    have h2 : (u.i 63).toInt = (t : Int) := ht
    omega
  have hib : ib (u.i 63) 1000 := ⟨by rw [show (u.i 63).toInt = (t : Int) from ht]; omega, by rw [show (u.i 63).toInt = (t : Int) from ht]; omega⟩
  rw [en]
  exact ok_neg h0 (ok_pos h15 (ok_chk hib (ok_neg (by rw [hK]; decide) (ok_neg (by rw [hK]; decide) (ok_neg (by rw [hK]; decide) (ok_neg (by rw [hK]; decide) (ok_neg (by rw [hK]; decide) (ok_neg (by rw [hK]; decide) (ok_neg (by rw [hK]; decide) (ok_neg (by rw [hK]; decide) (ok_pos hK h)))))))))))
theorem lp_10 {N m : Nat} {u : RS} {t : Nat} {P : RS → Prop} (ht : tpI u = t) (h9 : t < 1000) (h15 : u.i 15 = 0) (hK : u.a 64 t = 10) (h : ok ((f_X12_whiles N u (u.i 63)).bind fun p => f_X12_parse_10 N m p) P) : ok (f_X12_parse_10 N (m + 1) u) P := by
  show ok (b_X12_parse_10 N (f_X12_parse_10 N m) u) P
  unfold b_X12_parse_10
  have en : (u.i 63).toNatClampNeg = t := by
    show (u.i 63).toInt.toNat = t
    rw [show (u.i 63).toInt = (t : Int) from ht]; exact Int.toNat_natCast _
  have h0 : ¬ u.i 63 < 0 := fun c => by
    have := lt_int c
    rw [z_t0] at this
    have h2 : (u.i 63).toInt = (t : Int) := ht
    omega
  have hib : ib (u.i 63) 1000 := ⟨by rw [show (u.i 63).toInt = (t : Int) from ht]; omega, by rw [show (u.i 63).toInt = (t : Int) from ht]; omega⟩
  rw [en]
  exact ok_neg h0 (ok_pos h15 (ok_chk hib (ok_neg (by rw [hK]; decide) (ok_neg (by rw [hK]; decide) (ok_neg (by rw [hK]; decide) (ok_neg (by rw [hK]; decide) (ok_neg (by rw [hK]; decide) (ok_neg (by rw [hK]; decide) (ok_neg (by rw [hK]; decide) (ok_neg (by rw [hK]; decide) (ok_neg (by rw [hK]; decide) (ok_pos hK h))))))))))))
theorem lp_11 {N m : Nat} {u : RS} {t : Nat} {P : RS → Prop} (ht : tpI u = t) (h9 : t < 1000) (h15 : u.i 15 = 0) (hK : u.a 64 t = 11) (h : ok ((f_X12_repeats N u (u.i 63)).bind fun p => f_X12_parse_10 N m p) P) : ok (f_X12_parse_10 N (m + 1) u) P := by
  show ok (b_X12_parse_10 N (f_X12_parse_10 N m) u) P
  unfold b_X12_parse_10
  have en : (u.i 63).toNatClampNeg = t := by
    show (u.i 63).toInt.toNat = t
    rw [show (u.i 63).toInt = (t : Int) from ht]; exact Int.toNat_natCast _
  have h0 : ¬ u.i 63 < 0 := fun c => by
    have := lt_int c
    rw [z_t0] at this
    have h2 : (u.i 63).toInt = (t : Int) := ht
    omega
  have hib : ib (u.i 63) 1000 := ⟨by rw [show (u.i 63).toInt = (t : Int) from ht]; omega, by rw [show (u.i 63).toInt = (t : Int) from ht]; omega⟩
  rw [en]
  exact ok_neg h0 (ok_pos h15 (ok_chk hib (ok_neg (by rw [hK]; decide) (ok_neg (by rw [hK]; decide) (ok_neg (by rw [hK]; decide) (ok_neg (by rw [hK]; decide) (ok_neg (by rw [hK]; decide) (ok_neg (by rw [hK]; decide) (ok_neg (by rw [hK]; decide) (ok_neg (by rw [hK]; decide) (ok_neg (by rw [hK]; decide) (ok_neg (by rw [hK]; decide) (ok_pos hK h)))))))))))))
theorem lp_12 {N m : Nat} {u : RS} {t : Nat} {P : RS → Prop} (ht : tpI u = t) (h9 : t < 1000) (h15 : u.i 15 = 0) (hK : u.a 64 t = 12) (h : ok ((f_X12_fors N u (u.i 63)).bind fun p => f_X12_parse_10 N m p) P) : ok (f_X12_parse_10 N (m + 1) u) P := by
  show ok (b_X12_parse_10 N (f_X12_parse_10 N m) u) P
  unfold b_X12_parse_10
  have en : (u.i 63).toNatClampNeg = t := by
    show (u.i 63).toInt.toNat = t
    rw [show (u.i 63).toInt = (t : Int) from ht]; exact Int.toNat_natCast _
  have h0 : ¬ u.i 63 < 0 := fun c => by
    have := lt_int c
    rw [z_t0] at this
    have h2 : (u.i 63).toInt = (t : Int) := ht
    omega
  have hib : ib (u.i 63) 1000 := ⟨by rw [show (u.i 63).toInt = (t : Int) from ht]; omega, by rw [show (u.i 63).toInt = (t : Int) from ht]; omega⟩
  rw [en]
  exact ok_neg h0 (ok_pos h15 (ok_chk hib (ok_neg (by rw [hK]; decide) (ok_neg (by rw [hK]; decide) (ok_neg (by rw [hK]; decide) (ok_neg (by rw [hK]; decide) (ok_neg (by rw [hK]; decide) (ok_neg (by rw [hK]; decide) (ok_neg (by rw [hK]; decide) (ok_neg (by rw [hK]; decide) (ok_neg (by rw [hK]; decide) (ok_neg (by rw [hK]; decide) (ok_neg (by rw [hK]; decide) (ok_pos hK h))))))))))))))
theorem lp_13 {N m : Nat} {u : RS} {t : Nat} {P : RS → Prop} (ht : tpI u = t) (h9 : t < 1000) (h15 : u.i 15 = 0) (hK : u.a 64 t = 13) (h : ok ((f_X12_lock N u (u.i 63)).bind fun p => f_X12_parse_10 N m p) P) : ok (f_X12_parse_10 N (m + 1) u) P := by
  show ok (b_X12_parse_10 N (f_X12_parse_10 N m) u) P
  unfold b_X12_parse_10
  have en : (u.i 63).toNatClampNeg = t := by
    show (u.i 63).toInt.toNat = t
    rw [show (u.i 63).toInt = (t : Int) from ht]; exact Int.toNat_natCast _
  have h0 : ¬ u.i 63 < 0 := fun c => by
    have := lt_int c
    rw [z_t0] at this
    have h2 : (u.i 63).toInt = (t : Int) := ht
    omega
  have hib : ib (u.i 63) 1000 := ⟨by rw [show (u.i 63).toInt = (t : Int) from ht]; omega, by rw [show (u.i 63).toInt = (t : Int) from ht]; omega⟩
  rw [en]
  exact ok_neg h0 (ok_pos h15 (ok_chk hib (ok_neg (by rw [hK]; decide) (ok_neg (by rw [hK]; decide) (ok_neg (by rw [hK]; decide) (ok_neg (by rw [hK]; decide) (ok_neg (by rw [hK]; decide) (ok_neg (by rw [hK]; decide) (ok_neg (by rw [hK]; decide) (ok_neg (by rw [hK]; decide) (ok_neg (by rw [hK]; decide) (ok_neg (by rw [hK]; decide) (ok_neg (by rw [hK]; decide) (ok_neg (by rw [hK]; decide) (ok_pos hK h)))))))))))))))
theorem lp_14 {N m : Nat} {u : RS} {t : Nat} {P : RS → Prop} (ht : tpI u = t) (h9 : t < 1000) (h15 : u.i 15 = 0) (hK : u.a 64 t = 14) (h : ok ((f_X12_groups N u (u.i 63)).bind fun p => f_X12_parse_10 N m p) P) : ok (f_X12_parse_10 N (m + 1) u) P := by
  show ok (b_X12_parse_10 N (f_X12_parse_10 N m) u) P
  unfold b_X12_parse_10
  have en : (u.i 63).toNatClampNeg = t := by
    show (u.i 63).toInt.toNat = t
    rw [show (u.i 63).toInt = (t : Int) from ht]; exact Int.toNat_natCast _
  have h0 : ¬ u.i 63 < 0 := fun c => by
    have := lt_int c
    rw [z_t0] at this
    have h2 : (u.i 63).toInt = (t : Int) := ht
    omega
  have hib : ib (u.i 63) 1000 := ⟨by rw [show (u.i 63).toInt = (t : Int) from ht]; omega, by rw [show (u.i 63).toInt = (t : Int) from ht]; omega⟩
  rw [en]
  exact ok_neg h0 (ok_pos h15 (ok_chk hib (ok_neg (by rw [hK]; decide) (ok_neg (by rw [hK]; decide) (ok_neg (by rw [hK]; decide) (ok_neg (by rw [hK]; decide) (ok_neg (by rw [hK]; decide) (ok_neg (by rw [hK]; decide) (ok_neg (by rw [hK]; decide) (ok_neg (by rw [hK]; decide) (ok_neg (by rw [hK]; decide) (ok_neg (by rw [hK]; decide) (ok_neg (by rw [hK]; decide) (ok_neg (by rw [hK]; decide) (ok_neg (by rw [hK]; decide) (ok_pos hK h))))))))))))))))
theorem lp_15 {N m : Nat} {u : RS} {t : Nat} {P : RS → Prop} (ht : tpI u = t) (h9 : t < 1000) (h15 : u.i 15 = 0) (hK : u.a 64 t = 15) (h : ok ((f_X12_trying N u (u.i 63)).bind fun p => f_X12_parse_10 N m p) P) : ok (f_X12_parse_10 N (m + 1) u) P := by
  show ok (b_X12_parse_10 N (f_X12_parse_10 N m) u) P
  unfold b_X12_parse_10
  have en : (u.i 63).toNatClampNeg = t := by
    show (u.i 63).toInt.toNat = t
    rw [show (u.i 63).toInt = (t : Int) from ht]; exact Int.toNat_natCast _
  have h0 : ¬ u.i 63 < 0 := fun c => by
    have := lt_int c
    rw [z_t0] at this
    have h2 : (u.i 63).toInt = (t : Int) := ht
    omega
  have hib : ib (u.i 63) 1000 := ⟨by rw [show (u.i 63).toInt = (t : Int) from ht]; omega, by rw [show (u.i 63).toInt = (t : Int) from ht]; omega⟩
  rw [en]
  exact ok_neg h0 (ok_pos h15 (ok_chk hib (ok_neg (by rw [hK]; decide) (ok_neg (by rw [hK]; decide) (ok_neg (by rw [hK]; decide) (ok_neg (by rw [hK]; decide) (ok_neg (by rw [hK]; decide) (ok_neg (by rw [hK]; decide) (ok_neg (by rw [hK]; decide) (ok_neg (by rw [hK]; decide) (ok_neg (by rw [hK]; decide) (ok_neg (by rw [hK]; decide) (ok_neg (by rw [hK]; decide) (ok_neg (by rw [hK]; decide) (ok_neg (by rw [hK]; decide) (ok_neg (by rw [hK]; decide) (ok_pos hK h)))))))))))))))))
theorem lp_18 {N m : Nat} {u : RS} {t : Nat} {P : RS → Prop} (ht : tpI u = t) (h9 : t < 1000) (h15 : u.i 15 = 0) (hK : u.a 64 t = 18) (h : ok ((f_X12_factor N u (u.i 63)).bind fun p => f_X12_parse_10 N m p) P) : ok (f_X12_parse_10 N (m + 1) u) P := by
  show ok (b_X12_parse_10 N (f_X12_parse_10 N m) u) P
  unfold b_X12_parse_10
  have en : (u.i 63).toNatClampNeg = t := by
    show (u.i 63).toInt.toNat = t
    rw [show (u.i 63).toInt = (t : Int) from ht]; exact Int.toNat_natCast _
  have h0 : ¬ u.i 63 < 0 := fun c => by
    have := lt_int c
    rw [z_t0] at this
    have h2 : (u.i 63).toInt = (t : Int) := ht
    omega
  have hib : ib (u.i 63) 1000 := ⟨by rw [show (u.i 63).toInt = (t : Int) from ht]; omega, by rw [show (u.i 63).toInt = (t : Int) from ht]; omega⟩
  rw [en]
  refine ok_neg h0 (ok_pos h15 (ok_chk hib (ok_neg (by rw [hK]; decide) (ok_neg (by rw [hK]; decide) (ok_neg (by rw [hK]; decide) (ok_neg (by rw [hK]; decide) (ok_neg (by rw [hK]; decide) (ok_neg (by rw [hK]; decide) (ok_neg (by rw [hK]; decide) (ok_neg (by rw [hK]; decide) (ok_neg (by rw [hK]; decide) (ok_neg (by rw [hK]; decide) (ok_neg (by rw [hK]; decide) (ok_neg (by rw [hK]; decide) (ok_neg (by rw [hK]; decide) (ok_neg (by rw [hK]; decide) (ok_neg (by rw [hK]; decide) (?_))))))))))))))))))
  unfold f_X12_thing
  rw [en, if_pos hib]
  rw [if_neg (show ¬ u.a 64 t = 16 by rw [hK]; decide)]
  rw [if_neg (show ¬ u.a 64 t = 17 by rw [hK]; decide)]
  rw [if_pos hK, bind_some]
  exact h
theorem lp_19 {N m : Nat} {u : RS} {t : Nat} {P : RS → Prop} (ht : tpI u = t) (h9 : t < 1000) (h15 : u.i 15 = 0) (hK : u.a 64 t = 19) (h : ok ((f_X12_arms N u (u.i 63)).bind fun p => f_X12_parse_10 N m p) P) : ok (f_X12_parse_10 N (m + 1) u) P := by
  show ok (b_X12_parse_10 N (f_X12_parse_10 N m) u) P
  unfold b_X12_parse_10
  have en : (u.i 63).toNatClampNeg = t := by
    show (u.i 63).toInt.toNat = t
    rw [show (u.i 63).toInt = (t : Int) from ht]; exact Int.toNat_natCast _
  have h0 : ¬ u.i 63 < 0 := fun c => by
    have := lt_int c
    rw [z_t0] at this
    have h2 : (u.i 63).toInt = (t : Int) := ht
    omega
  have hib : ib (u.i 63) 1000 := ⟨by rw [show (u.i 63).toInt = (t : Int) from ht]; omega, by rw [show (u.i 63).toInt = (t : Int) from ht]; omega⟩
  rw [en]
  refine ok_neg h0 (ok_pos h15 (ok_chk hib (ok_neg (by rw [hK]; decide) (ok_neg (by rw [hK]; decide) (ok_neg (by rw [hK]; decide) (ok_neg (by rw [hK]; decide) (ok_neg (by rw [hK]; decide) (ok_neg (by rw [hK]; decide) (ok_neg (by rw [hK]; decide) (ok_neg (by rw [hK]; decide) (ok_neg (by rw [hK]; decide) (ok_neg (by rw [hK]; decide) (ok_neg (by rw [hK]; decide) (ok_neg (by rw [hK]; decide) (ok_neg (by rw [hK]; decide) (ok_neg (by rw [hK]; decide) (ok_neg (by rw [hK]; decide) (?_))))))))))))))))))
  unfold f_X12_thing
  rw [en, if_pos hib]
  rw [if_neg (show ¬ u.a 64 t = 16 by rw [hK]; decide)]
  rw [if_neg (show ¬ u.a 64 t = 17 by rw [hK]; decide)]
  rw [if_neg (show ¬ u.a 64 t = 18 by rw [hK]; decide)]
  rw [if_pos hK, bind_some]
  exact h
theorem lp_22 {N m : Nat} {u : RS} {t : Nat} {P : RS → Prop} (ht : tpI u = t) (h9 : t < 1000) (h15 : u.i 15 = 0) (hK : u.a 64 t = 22) (h : ok ((f_X12_one N u (u.i 63)).bind fun p => f_X12_parse_10 N m p) P) : ok (f_X12_parse_10 N (m + 1) u) P := by
  show ok (b_X12_parse_10 N (f_X12_parse_10 N m) u) P
  unfold b_X12_parse_10
  have en : (u.i 63).toNatClampNeg = t := by
    show (u.i 63).toInt.toNat = t
    rw [show (u.i 63).toInt = (t : Int) from ht]; exact Int.toNat_natCast _
  have h0 : ¬ u.i 63 < 0 := fun c => by
    have := lt_int c
    rw [z_t0] at this
    have h2 : (u.i 63).toInt = (t : Int) := ht
    omega
  have hib : ib (u.i 63) 1000 := ⟨by rw [show (u.i 63).toInt = (t : Int) from ht]; omega, by rw [show (u.i 63).toInt = (t : Int) from ht]; omega⟩
  rw [en]
  refine ok_neg h0 (ok_pos h15 (ok_chk hib (ok_neg (by rw [hK]; decide) (ok_neg (by rw [hK]; decide) (ok_neg (by rw [hK]; decide) (ok_neg (by rw [hK]; decide) (ok_neg (by rw [hK]; decide) (ok_neg (by rw [hK]; decide) (ok_neg (by rw [hK]; decide) (ok_neg (by rw [hK]; decide) (ok_neg (by rw [hK]; decide) (ok_neg (by rw [hK]; decide) (ok_neg (by rw [hK]; decide) (ok_neg (by rw [hK]; decide) (ok_neg (by rw [hK]; decide) (ok_neg (by rw [hK]; decide) (ok_neg (by rw [hK]; decide) (?_))))))))))))))))))
  unfold f_X12_thing
  rw [en, if_pos hib]
  rw [if_neg (show ¬ u.a 64 t = 16 by rw [hK]; decide)]
  rw [if_neg (show ¬ u.a 64 t = 17 by rw [hK]; decide)]
  rw [if_neg (show ¬ u.a 64 t = 18 by rw [hK]; decide)]
  rw [if_neg (show ¬ u.a 64 t = 19 by rw [hK]; decide)]
  rw [if_neg (show ¬ u.a 64 t = 20 by rw [hK]; decide)]
  rw [if_neg (show ¬ u.a 64 t = 21 by rw [hK]; decide)]
  rw [bind_some]
  exact h
theorem lp_20 {N m : Nat} {u : RS} {t : Nat} {P : RS → Prop} (ht : tpI u = t) (h9 : t < 1000) (h15 : u.i 15 = 0) (hK : u.a 64 t = 20) (h : ok ((f_X12_both N u (u.i 63) 21 305 11).bind fun p => f_X12_parse_10 N m p) P) : ok (f_X12_parse_10 N (m + 1) u) P := by
  show ok (b_X12_parse_10 N (f_X12_parse_10 N m) u) P
  unfold b_X12_parse_10
  have en : (u.i 63).toNatClampNeg = t := by
    show (u.i 63).toInt.toNat = t
    rw [show (u.i 63).toInt = (t : Int) from ht]; exact Int.toNat_natCast _
  have h0 : ¬ u.i 63 < 0 := fun c => by
    have := lt_int c
    rw [z_t0] at this
    have h2 : (u.i 63).toInt = (t : Int) := ht
    omega
  have hib : ib (u.i 63) 1000 := ⟨by rw [show (u.i 63).toInt = (t : Int) from ht]; omega, by rw [show (u.i 63).toInt = (t : Int) from ht]; omega⟩
  rw [en]
  refine ok_neg h0 (ok_pos h15 (ok_chk hib (ok_neg (by rw [hK]; decide) (ok_neg (by rw [hK]; decide) (ok_neg (by rw [hK]; decide) (ok_neg (by rw [hK]; decide) (ok_neg (by rw [hK]; decide) (ok_neg (by rw [hK]; decide) (ok_neg (by rw [hK]; decide) (ok_neg (by rw [hK]; decide) (ok_neg (by rw [hK]; decide) (ok_neg (by rw [hK]; decide) (ok_neg (by rw [hK]; decide) (ok_neg (by rw [hK]; decide) (ok_neg (by rw [hK]; decide) (ok_neg (by rw [hK]; decide) (ok_neg (by rw [hK]; decide) (?_))))))))))))))))))
  unfold f_X12_thing
  rw [en, if_pos hib]
  rw [if_neg (show ¬ u.a 64 t = 16 by rw [hK]; decide)]
  rw [if_neg (show ¬ u.a 64 t = 17 by rw [hK]; decide)]
  rw [if_neg (show ¬ u.a 64 t = 18 by rw [hK]; decide)]
  rw [if_neg (show ¬ u.a 64 t = 19 by rw [hK]; decide)]
  rw [if_pos hK, bind_some]
  exact h
theorem lp_21 {N m : Nat} {u : RS} {t : Nat} {P : RS → Prop} (ht : tpI u = t) (h9 : t < 1000) (h15 : u.i 15 = 0) (hK : u.a 64 t = 21) (h : ok ((f_X12_both N u (u.i 63) 22 304 12).bind fun p => f_X12_parse_10 N m p) P) : ok (f_X12_parse_10 N (m + 1) u) P := by
  show ok (b_X12_parse_10 N (f_X12_parse_10 N m) u) P
  unfold b_X12_parse_10
  have en : (u.i 63).toNatClampNeg = t := by
    show (u.i 63).toInt.toNat = t
    rw [show (u.i 63).toInt = (t : Int) from ht]; exact Int.toNat_natCast _
  have h0 : ¬ u.i 63 < 0 := fun c => by
    have := lt_int c
    rw [z_t0] at this
    have h2 : (u.i 63).toInt = (t : Int) := ht
    omega
  have hib : ib (u.i 63) 1000 := ⟨by rw [show (u.i 63).toInt = (t : Int) from ht]; omega, by rw [show (u.i 63).toInt = (t : Int) from ht]; omega⟩
  rw [en]
  refine ok_neg h0 (ok_pos h15 (ok_chk hib (ok_neg (by rw [hK]; decide) (ok_neg (by rw [hK]; decide) (ok_neg (by rw [hK]; decide) (ok_neg (by rw [hK]; decide) (ok_neg (by rw [hK]; decide) (ok_neg (by rw [hK]; decide) (ok_neg (by rw [hK]; decide) (ok_neg (by rw [hK]; decide) (ok_neg (by rw [hK]; decide) (ok_neg (by rw [hK]; decide) (ok_neg (by rw [hK]; decide) (ok_neg (by rw [hK]; decide) (ok_neg (by rw [hK]; decide) (ok_neg (by rw [hK]; decide) (ok_neg (by rw [hK]; decide) (?_))))))))))))))))))
  unfold f_X12_thing
  rw [en, if_pos hib]
  rw [if_neg (show ¬ u.a 64 t = 16 by rw [hK]; decide)]
  rw [if_neg (show ¬ u.a 64 t = 17 by rw [hK]; decide)]
  rw [if_neg (show ¬ u.a 64 t = 18 by rw [hK]; decide)]
  rw [if_neg (show ¬ u.a 64 t = 19 by rw [hK]; decide)]
  rw [if_neg (show ¬ u.a 64 t = 20 by rw [hK]; decide)]
  rw [if_pos hK, bind_some]
  exact h
theorem lp_16 {N m : Nat} {u : RS} {t : Nat} {P : RS → Prop} (ht : tpI u = t) (h9 : t < 1000) (h15 : u.i 15 = 0) (hK : u.a 64 t = 16) (h1 : (u.i 10 = 43 ∨ u.i 10 = 45) → ok ((f_X12_sums N u (u.i 63) 17 1).bind fun p => f_X12_parse_10 N m p) P) (h : ok ((f_X12_sums N u (u.i 63) 17 0).bind fun p => f_X12_parse_10 N m p) P) : ok (f_X12_parse_10 N (m + 1) u) P := by
  show ok (b_X12_parse_10 N (f_X12_parse_10 N m) u) P
  unfold b_X12_parse_10
  have en : (u.i 63).toNatClampNeg = t := by
    show (u.i 63).toInt.toNat = t
    rw [show (u.i 63).toInt = (t : Int) from ht]; exact Int.toNat_natCast _
  have h0 : ¬ u.i 63 < 0 := fun c => by
    have := lt_int c
    rw [z_t0] at this
    have h2 : (u.i 63).toInt = (t : Int) := ht
    omega
  have hib : ib (u.i 63) 1000 := ⟨by rw [show (u.i 63).toInt = (t : Int) from ht]; omega, by rw [show (u.i 63).toInt = (t : Int) from ht]; omega⟩
  rw [en]
  refine ok_neg h0 (ok_pos h15 (ok_chk hib (ok_neg (by rw [hK]; decide) (ok_neg (by rw [hK]; decide) (ok_neg (by rw [hK]; decide) (ok_neg (by rw [hK]; decide) (ok_neg (by rw [hK]; decide) (ok_neg (by rw [hK]; decide) (ok_neg (by rw [hK]; decide) (ok_neg (by rw [hK]; decide) (ok_neg (by rw [hK]; decide) (ok_neg (by rw [hK]; decide) (ok_neg (by rw [hK]; decide) (ok_neg (by rw [hK]; decide) (ok_neg (by rw [hK]; decide) (ok_neg (by rw [hK]; decide) (ok_neg (by rw [hK]; decide) (?_))))))))))))))))))
  unfold f_X12_thing f_X12_thing_74 f_X12_thing_116
  rw [en, if_pos hib]
  rw [if_pos hK]
  by_cases c43 : u.i 10 = 43
  · rw [if_pos c43, bind_some]
    exact h1 (by rw [c43]; decide)
  rw [if_neg c43]
  by_cases c45 : u.i 10 = 45
  · rw [if_pos c45, bind_some]
    exact h1 (by rw [c45]; decide)
  rw [if_neg c45]
  rw [bind_some]
  exact h
theorem lp_17 {N m : Nat} {u : RS} {t : Nat} {P : RS → Prop} (ht : tpI u = t) (h9 : t < 1000) (h15 : u.i 15 = 0) (hK : u.a 64 t = 17) (h1 : (u.i 10 = 42 ∨ u.i 10 = 47 ∨ u.i 10 = 37) → ok ((f_X12_sums N u (u.i 63) 18 1).bind fun p => f_X12_parse_10 N m p) P) (h : ok ((f_X12_sums N u (u.i 63) 18 0).bind fun p => f_X12_parse_10 N m p) P) : ok (f_X12_parse_10 N (m + 1) u) P := by
  show ok (b_X12_parse_10 N (f_X12_parse_10 N m) u) P
  unfold b_X12_parse_10
  have en : (u.i 63).toNatClampNeg = t := by
    show (u.i 63).toInt.toNat = t
    rw [show (u.i 63).toInt = (t : Int) from ht]; exact Int.toNat_natCast _
  have h0 : ¬ u.i 63 < 0 := fun c => by
    have := lt_int c
    rw [z_t0] at this
    have h2 : (u.i 63).toInt = (t : Int) := ht
    omega
  have hib : ib (u.i 63) 1000 := ⟨by rw [show (u.i 63).toInt = (t : Int) from ht]; omega, by rw [show (u.i 63).toInt = (t : Int) from ht]; omega⟩
  rw [en]
  refine ok_neg h0 (ok_pos h15 (ok_chk hib (ok_neg (by rw [hK]; decide) (ok_neg (by rw [hK]; decide) (ok_neg (by rw [hK]; decide) (ok_neg (by rw [hK]; decide) (ok_neg (by rw [hK]; decide) (ok_neg (by rw [hK]; decide) (ok_neg (by rw [hK]; decide) (ok_neg (by rw [hK]; decide) (ok_neg (by rw [hK]; decide) (ok_neg (by rw [hK]; decide) (ok_neg (by rw [hK]; decide) (ok_neg (by rw [hK]; decide) (ok_neg (by rw [hK]; decide) (ok_neg (by rw [hK]; decide) (ok_neg (by rw [hK]; decide) (?_))))))))))))))))))
  unfold f_X12_thing f_X12_thing_74 f_X12_thing_116
  rw [en, if_pos hib]
  rw [if_neg (show ¬ u.a 64 t = 16 by rw [hK]; decide)]
  rw [if_pos hK]
  by_cases c42 : u.i 10 = 42
  · rw [if_pos c42, bind_some]
    exact h1 (by rw [c42]; decide)
  rw [if_neg c42]
  by_cases c47 : u.i 10 = 47
  · rw [if_pos c47, bind_some]
    exact h1 (by rw [c47]; decide)
  rw [if_neg c47]
  by_cases c37 : u.i 10 = 37
  · rw [if_pos c37, bind_some]
    exact h1 (by rw [c37]; decide)
  rw [if_neg c37]
  rw [bind_some]
  exact h
