/-! both machines: leaving, entry by entry -/
theorem hS_dec {r R : RS} {m : Nat} {v : Int32} (h1 : R.a 91 m = r.a 91 m + v) (h2 : ∀ j : Nat, j ≠ m → R.a 91 j = r.a 91 j) : ∀ n : Nat, (n ≤ m → hS R n = hS r n) ∧ (m < n → hS R n = hS r n + v)
  | 0 => ⟨fun _ => rfl, fun h => absurd h (Nat.not_lt_zero m)⟩
  | n + 1 => by
    obtain ⟨i1, i2⟩ := hS_dec h1 h2 n
    refine ⟨fun h => ?_, fun h => ?_⟩
    · show hS R n + R.a 91 n = hS r n + r.a 91 n
      rw [i1 (by omega), h2 n (by omega)]
    · show hS R n + R.a 91 n = hS r n + r.a 91 n + v
      by_cases z : n = m
      · rw [i1 (by omega), z, h1, Int32.add_assoc]
      · rw [i2 (by omega), h2 n z, Int32.add_assoc, Int32.add_assoc, Int32.add_comm v]
/-- one entry less, or all is over -/
def STP (N H : Nat) (D : Nat → List Nat) (T : Int32 × CS) (s0 : CS) (nm : Nat → Nat → Prop) (AL : Als) (h u : Nat) (V : RS) (s : CS) (r : RS) (c : List Ent) (n0 : Nat) (B : Int) : Prop := LVO N H D T s0 nm AL V (r.i 80) B ∨ ∃ (S : CS) (R : RS) (mu : Nat → Nat) (n : Int) (x : Int32), CRN N H D T s0 S x ∧ LVR nm S R mu AL h c n u ∧ f_X12_leave_0 N n0 R = some V ∧ x.toInt + fps c + u + 1 ≤ B ∧ (S.a 15 = s.a 15 ∧ S.a 16 = s.a 16 ∧ S.a 17 = s.a 17) ∧ RFX r R ∧ R.i 80 = r.i 80
theorem nd_ofw {r : RS} {c : List Ent} {e : Ent} {way : Int32} (h99 : (r.i 99).toInt = ((e :: c).length : Int)) (hw : way = 1 → r.i 110 = 1) (hw2 : way = 2 → r.i 110 = 4) (g : LVG r) : way = 1 ∨ way = 2 → ¬ (r.i 112).toInt = (c.length : Int) + 1 := by
  intro w z
  have el : ((e :: c).length : Int) = (c.length : Int) + 1 := by
    show ((c.length + 1 : Nat) : Int) = _
    omega
  rcases g with ⟨-, g2⟩ | ⟨g1, g2, -⟩
  · exact g2 (by rw [Int32.le_iff_toInt_le]; omega)
  · rcases w with w | w
    · exact g1 (hw w)
    · exact g2 (hw2 w)
theorem WYS.hw {s : CS} {r : RS} {mu : Nat → Nat} {AL : Als} {c : List Ent} {h u : Nat} {way val T how x d value g : Int32} {t : Option Nat} (k : WYS s r mu AL c h u way val T t how x d value g) : (way = 1 → how = 1) ∧ (way = 2 → how = 4) ∧ ¬ way = 0 ∧ (way = 3 → how = 2) ∧ (way = 4 → how = 3) := by
  rcases k with ⟨a, b, -⟩ | ⟨a, b, -⟩ | ⟨a, b, -⟩ | ⟨a, b, -⟩ <;> rw [a, b] <;> decide
theorem idx1 {r : RS} {k : Nat} (h : (r.i 99).toInt = ((k + 1 : Nat) : Int)) : (r.i 99 - 1).toInt = (k : Int) ∧ (r.i 99 - 1).toNatClampNeg = k := by
  have z : (r.i 99 - 1).toInt = (k : Int) := sub_n1 (by omega)
  exact ⟨z, cl_nat z⟩
theorem ltg_of {s : CS} {r : RS} {mu : Nat → Nat} {AL : Als} {e : Ent} {c : List Ent} {h u : Nat} {val how x d value g : Int32} {t : Option Nat} (hk : e.k ≤ 3) (k : WYS s r mu AL (e :: c) h u (s.i 73) val (s.i 75) t how x d value g) (nd : s.i 73 = 1 ∨ s.i 73 = 2 → ¬ d.toInt = (c.length : Int) + 1) (h67 : (s.i 67).toInt = (frs (e :: c) : Int)) : LTG s := by
  have ap : ∀ (a b : List Ent), frs b ≤ frs (a ++ b) := fun a b => by
    induction a with
    | nil => exact Nat.le_refl _
    | cons z a ih => exact Nat.le_trans ih frs_le
  have up := frs_up (c := c) hk
  unfold LTG
  rw [Int32.lt_iff_toInt_lt, h67, up]
  rcases k with ⟨a1, a2, c1, c0, b1, ⟨b2, b3⟩, -⟩ | ⟨a1, a2, a3, c1, a, c0, b1, b2, ⟨b3, b4⟩, -⟩ | ⟨a1, a2, a3, a4⟩ | ⟨a1, a2, a3, a4⟩
  · cases c1 with
    | nil =>
      have e0 : c0 = e :: c := b1.symm
      rw [e0] at b3
      exact absurd b3 (nd (Or.inl a1))
    | cons e' c1 =>
      have e2 : c = c1 ++ c0 := (List.cons.inj b1).2
      have := ap c1 c0
      rw [← e2] at this
      omega
  · cases c1 with
    | nil =>
      have e1 : e = a ∧ c = c0 := List.cons.inj b1
      rw [← e1.2] at b4
      exact absurd b4 (nd (Or.inr a1))
    | cons e' c1 =>
      have e2 : c = c1 ++ a :: c0 := (List.cons.inj b1).2
      have := ap c1 (a :: c0)
      rw [← e2] at this
      have := frs_le (e := a) (c := c0)
      omega
  · rw [a4, show ((0 : Int32) - 0 / 32 * 32).toInt = 0 by decide]
    omega
  · rw [a3, show ((0 : Int32) - 0 / 32 * 32).toInt = 0 by decide]
    omega
theorem fps_le {e : Ent} {c : List Ent} : fps c ≤ fps (e :: c) := by
  show fps c ≤ fps c + (if e.k = 0 then 2 else if e.k = 1 then 1460 else if e.k = 2 then 1154 else if e.k = 3 then 1152 else 0)
  omega
/-- a row, or arms, go: the class does nothing -/
theorem st_45 {N H n0 : Nat} {D : Nat → List Nat} {T : Int32 × CS} {s0 s : CS} {nm : Nat → Nat → Prop} {AL : Als} {mu : Nat → Nat} {h u : Nat} {e : Ent} {c : List Ent} {r V : RS} {x : Int32} {n : Int} {B : Int} (hk : e.k = 4 ∨ e.k = 5) (cr : CRN N H D T s0 s x) (l : LVR nm s r mu AL h (e :: c) n u) (ng : LVG r) (hB : x.toInt + fps (e :: c) + u + 1 ≤ B) (g : f_X12_leave_0 N (n0 + 1) r = some V) : STP N H D T s0 nm AL h u V s r c n0 B := by
  obtain ⟨l1, ⟨l2, l3, l4⟩, ⟨⟨⟨d0, d1⟩, ⟨d2, d2'⟩, d3, d4, d6, d7⟩, op⟩, -, l9, -⟩ := id l
  have g1 := lv_ng ng g
  obtain ⟨x1, x2⟩ := idx1 (r := r) (k := c.length) d2'
  have fl := fps_le (e := e) (c := c)
  have hf : frs (e :: c) = frs c := frs_eq (by omega)
  replace op := op.tl (by omega)
  have nd := nd_ofw d2' l9.hw.1 l9.hw.2.1 ng
  have hfc : e.k = 1 ∨ e.k = 2 → 0 ≤ (r.a 31 e.y).toInt → FCP r AL e.y := fun q => by omega
  rcases d1 with ⟨k0, -⟩ | ⟨k0, -⟩ | ⟨k0, -⟩ | ⟨k0, -⟩ | ⟨k4, a1, m0, a2, a3⟩ | ⟨k5, a1, a2, a3⟩
  · omega
  · omega
  · omega
  · omega
  · have g2 := lv_r2 x2 a1 g1
    obtain ⟨i, b1, b2, b3, b4, -⟩ := a2
    have sm : SAM s s r (RS.setI (RS.setI r 97 (r.a 101 c.length)) 99 (r.i 99 - 1)) := ⟨fun _ _ _ _ => rfl, fun _ _ => rfl, ⟨rfl, rfl, rfl, rfl, rfl⟩, fun j _ q1 q2 => by rw [ri_ne q2, ri_ne q1], fun _ _ _ _ => rfl⟩
    have m97 : ((RS.setI (RS.setI r 97 (r.a 101 c.length)) 99 (r.i 99 - 1)).i 97).toInt = m0 := by
      rw [ri_ne (by decide), ri_at]
      exact b4
    refine Or.inr ⟨s, _, mu, n, x, cr, pop_sam l sm (l3.of rfl rfl rfl (by rw [ri_ne (by decide), ri_ne (by decide)]) (by rw [ri_ne (by decide), ri_ne (by decide)]) rfl rfl) (by rw [m97]; exact a3) (by rw [d2, hf]) (by rw [ri_at]; exact x1) op (d3.trans (hS_of (r := r) rfl 8).symm) nd hfc, g2, by omega, ⟨rfl, rfl, rfl⟩, sm.rfx, by rw [ri_ne (by decide), ri_ne (by decide)]⟩
  · have g2 := lv_r3 x2 a1 g1
    have sm : SAM s s r (RS.setI r 99 (r.i 99 - 1)) := ⟨fun _ _ _ _ => rfl, fun _ _ => rfl, ⟨rfl, rfl, rfl, rfl, rfl⟩, fun j _ q1 q2 => ri_ne q2, fun _ _ _ _ => rfl⟩
    refine Or.inr ⟨s, _, mu, n, x, cr, pop_sam l sm (l3.of rfl rfl rfl (ri_ne (by decide)) (ri_ne (by decide)) rfl rfl) (by rw [ri_ne (by decide)]; exact a3) (by rw [d2, hf]) (by rw [ri_at]; exact x1) op (d3.trans (hS_of (r := r) rfl 8).symm) nd hfc, g2, by omega, ⟨rfl, rfl, rfl⟩, sm.rfx, ri_ne (by decide)⟩
/-- a frame that goes with no more -/
theorem st_pp {N H n0 : Nat} {D : Nat → List Nat} {T : Int32 × CS} {s0 s S : CS} {nm : Nat → Nat → Prop} {AL : Als} {mu : Nat → Nat} {h u : Nat} {e : Ent} {c : List Ent} {r V : RS} {x : Int32} {n : Int} {B : Int} (hk : e.k = 2 ∨ e.k = 3) (cr : CRN N H D T s0 S x) (l : LVR nm s r mu AL h (e :: c) n u) (fr : FRS s r mu AL c (r.i 97).toInt) (nd : s.i 73 = 1 ∨ s.i 73 = 2 → ¬ (r.i 112).toInt = (c.length : Int) + 1) (hfc : e.k = 1 ∨ e.k = 2 → 0 ≤ (r.a 31 e.y).toInt → FCP r AL e.y) (eS : S = CS.setI s 67 (s.i 67 - 1)) (hB : x.toInt + fps c + u + 1 ≤ B) (g : f_X12_leave_0 N n0 (RS.setI r 99 (r.i 99 - 1)) = some V) : STP N H D T s0 nm AL h u V s r c n0 B := by
  obtain ⟨l1, ⟨l2, l3, l4⟩, ⟨⟨⟨d0, d1⟩, ⟨d2, d2'⟩, d3, d4, d6, d7⟩, op⟩, -, l9, -⟩ := id l
  obtain ⟨x1, x2⟩ := idx1 (r := r) (k := c.length) d2'
  have hf : frs (e :: c) = frs c + 1 := frs_up (by omega)
  replace op := op.tl (by omega)
  have sm : SAM s S r (RS.setI r 99 (r.i 99 - 1)) := by
    rw [eS]
    exact ⟨fun j q _ _ => ci_ne _ _ _ q, fun _ _ => rfl, ⟨rfl, rfl, rfl, rfl, rfl⟩, fun j _ _ q => ri_ne q, fun _ _ _ _ => rfl⟩
  have si := sm.1
  refine Or.inr ⟨S, _, mu, n, x, cr, pop_sam l sm (l3.of (by rw [eS, ci_ne _ _ _ (by decide)]) (by rw [eS, ci_ne _ _ _ (by decide)]) (by rw [eS]; rfl) (ri_ne (by decide)) (ri_ne (by decide)) rfl rfl) (by rw [ri_ne (by decide)]; exact fr) ?_ (by rw [ri_at]; exact x1) op (by rw [eS, ci_ne _ _ _ (by decide)]; exact d3.trans (hS_of (r := r) rfl 8).symm) nd hfc, g, hB, by rw [eS]; exact ⟨rfl, rfl, rfl⟩, sm.rfx, ri_ne (by decide)⟩
  rw [eS, ci_at]
  exact sub_n1 (by rw [d2, hf]; omega)
/-- a finally that was left goes -/
theorem st_3 {N H n0 : Nat} (hN : 10000000000 ≤ N) {D : Nat → List Nat} {T : Int32 × CS} {s0 s : CS} {nm : Nat → Nat → Prop} {AL : Als} {mu : Nat → Nat} {h u : Nat} {e : Ent} {c : List Ent} {r V : RS} {x : Int32} {n : Int} {B : Int} (hk : e.k = 3) (d22 : frs (e :: c) ≤ 22) (cr : CRN N H D T s0 s x) (l : LVR nm s r mu AL h (e :: c) n u) (ng : LVG r) (hB : x.toInt + fps (e :: c) + u + 1 ≤ B) (hB4 : B ≤ 4000000) (g : f_X12_leave_0 N (n0 + 1) r = some V) : STP N H D T s0 nm AL h u V s r c n0 B := by
  obtain ⟨l1, ⟨l2, l3, l4⟩, ⟨⟨⟨d0, d1⟩, ⟨d2, d2'⟩, d3, d4, d6, d7⟩, op⟩, -, l9, -⟩ := id l
  have g1 := lv_ng ng g
  obtain ⟨x1, x2⟩ := idx1 (r := r) (k := c.length) d2'
  have hf : frs (e :: c) = frs c + 1 := frs_up (by omega)
  have fp : fps (e :: c) = fps c + 1152 := by
    show fps c + (if e.k = 0 then 2 else if e.k = 1 then 1460 else if e.k = 2 then 1154 else if e.k = 3 then 1152 else 0) = fps c + 1152
    rw [if_neg (by omega), if_neg (by omega), if_neg (by omega), if_pos hk]
  have nd := nd_ofw d2' l9.hw.1 l9.hw.2.1 ng
  have lt := ltg_of (by omega) l9 nd d2
  have hfc : e.k = 1 ∨ e.k = 2 → 0 ≤ (r.a 31 e.y).toInt → FCP r AL e.y := fun q => by omega
  rcases d1 with ⟨k0, -⟩ | ⟨k0, -⟩ | ⟨k0, -⟩ | ⟨k3, a1, ⟨a2, a3⟩, ⟨f, a4, a5⟩, a6⟩ | ⟨k0, -⟩ | ⟨k0, -⟩
  · omega
  · omega
  · omega
  · have g2 := lv_r42 x2 a1 a3 g1
    obtain ⟨S, e1, e2, e3⟩ := cr.lv hN l1 l9.hw.2.2.1 (by omega)
    have eS := lo_p (by rw [d2, hf]; omega) (by omega) a4.1 lt (Or.inl a4.2.1) e1
    have x0 := cr.2.2.1.1
    exact st_pp (Or.inr hk) e3 l a6 nd hfc eS (by rw [ad1 x0 (by omega)]; omega) g2
  · omega
  · omega
