/-! both machines: leaving, what stays -/
/-- while both leave -/
def LVR (nm : Nat → Nat → Prop) (s : CS) (r : RS) (mu : Nat → Nat) (AL : Als) (h : Nat) (c : List Ent) (n : Int) (u : Nat) : Prop := s.i 72 = -1 ∧ (MVH s r h ∧ MTR s r ∧ ∀ k l : Nat, nm k l → s.a 59 k = r.a 84 l) ∧ DYN s r mu AL c n ∧ (n ≤ 1 ∧ (¬ s.i 73 = 4 → n = 0)) ∧ WYS s r mu AL c h u (s.i 73) (s.i 74) (s.i 75) s.w (r.i 110) (r.i 111) (r.i 112) (r.i 113) (r.i 114) ∧ TLR s r
/-- both go on at a place -/
def SYN (nm : Nat → Nat → Prop) (s : CS) (r : RS) (mu : Nat → Nat) (AL : Als) (h p q : Nat) (c : List Ent) (n : Int) : Prop := MCO nm s r h p q ∧ DYN s r mu AL c n ∧ TLR s r
/-- what comes of a leave -/
def LVO (N H : Nat) (D : Nat → List Nat) (T : Int32 × CS) (s0 : CS) (nm : Nat → Nat → Prop) (AL : Als) (V : RS) (st : Int32) (B : Int) : Prop := V.i 80 = st ∧ ((∃ (S : CS) (x : Int32) (mu : Nat → Nat) (h p q w : Nat) (c : List Ent), CRN N H D T s0 S x ∧ SYN nm S V mu AL h p q c 0 ∧ AL p q h w 0 c ∧ x.toInt + fps c + w ≤ B) ∨ (∃ S : CS, T = (S.i 72, S) ∧ (V.i 92).toInt < 0 ∧ RNZ S V ∧ ((S.i 72 = 1 ∧ V.i 115 = 2) ∨ (S.i 72 = 2 ∧ V.i 115 = 3))))
/-- what every place keeps -/
def HCT (nm : Nat → Nat → Prop) (AL : Als) : Prop := ∀ (p q h w g : Nat) (c : List Ent), AL p q h w g c → (p < 1200 ∧ q ≤ 3000) ∧ CTK nm c ∧ ops c ≤ 320 ∧ frs c ≤ 22 ∧ ∀ e ∈ c, e.h ≤ h
theorem FCA.up {r : RS} {AL : Als} {e : Ent} {c : List Ent} (h : FCA r AL c) (g : e.k = 1 ∨ e.k = 2 → 0 ≤ (r.a 31 e.y).toInt → FCP r AL e.y) : FCA r AL (e :: c) := fun a ha => by
  rcases List.mem_cons.mp ha with z | z
  · rw [z]
    exact g
  · exact h a z
theorem WYS.tl {s : CS} {r : RS} {mu : Nat → Nat} {AL : Als} {e : Ent} {c : List Ent} {h u : Nat} {way val T how x d value g : Int32} {t : Option Nat} (k : WYS s r mu AL (e :: c) h u way val T t how x d value g) (nd : way = 1 ∨ way = 2 → ¬ d.toInt = (c.length : Int) + 1) (hfc : e.k = 1 ∨ e.k = 2 → 0 ≤ (r.a 31 e.y).toInt → FCP r AL e.y) : WYS s r mu AL c h u way val T t how x d value g ∧ (e.k = 1 ∨ e.k = 2 → WYS s r mu AL c e.h e.u way val T t how x d value g) := by
  rcases k with ⟨a1, a2, c1, c0, b1, ⟨b2, b3⟩, b4, b5⟩ | ⟨a1, a2, a3, c1, a, c0, b1, b2, ⟨b3, b4⟩, b5, b6⟩ | a | a
  · cases c1 with
    | nil =>
      have e0 : c0 = e :: c := b1.symm
      rw [e0] at b3
      exact absurd b3 (nd (Or.inl a1))
    | cons e' c1 =>
      have e1 : e = e' ∧ c = c1 ++ c0 := by
        have := List.cons.inj b1
        exact this
      obtain ⟨e1, e2⟩ := e1
      rw [← e1] at b4 b5
      have ht : HTS c1 h := fun z hz => b4 z (List.mem_cons_of_mem _ hz)
      refine ⟨Or.inl ⟨a1, a2, c1, c0, e2, ⟨b2, b3⟩, ht, fun fc => ?_⟩, fun hk => ?_⟩
      · obtain ⟨p, q, w, z1, z2, z3, z4⟩ := b5 (fc.up hfc)
        exact ⟨p, q, w, z1, z2, z3, fun y hy => z4 y (List.mem_cons_of_mem _ hy)⟩
      · have eh : e.h = h := b4 e List.mem_cons_self (by omega)
        refine Or.inl ⟨a1, a2, c1, c0, e2, ⟨b2, b3⟩, by rw [eh]; exact ht, fun fc => ?_⟩
        obtain ⟨p, q, w, z1, z2, z3, z4⟩ := b5 (fc.up hfc)
        exact ⟨p, q, w, z1, by rw [eh]; exact z2, z4 e List.mem_cons_self hk, fun y hy => z4 y (List.mem_cons_of_mem _ hy)⟩
  · cases c1 with
    | nil =>
      have e1 : e = a ∧ c = c0 := List.cons.inj b1
      rw [← e1.2] at b4
      exact absurd b4 (nd (Or.inr a1))
    | cons e' c1 =>
      have e1 : e = e' ∧ c = c1 ++ a :: c0 := List.cons.inj b1
      obtain ⟨e1, e2⟩ := e1
      rw [← e1] at b5 b6
      have ht : HTS c1 h := fun z hz => b5 z (List.mem_cons_of_mem _ hz)
      refine ⟨Or.inr (Or.inl ⟨a1, a2, a3, c1, a, c0, e2, b2, ⟨b3, b4⟩, ht, fun fc => ?_⟩), fun hk => ?_⟩
      · obtain ⟨p, q, w, z1, z2, z3, z4⟩ := b6 (fc.up hfc)
        exact ⟨p, q, w, z1, z2, z3, fun y hy => z4 y (List.mem_cons_of_mem _ hy)⟩
      · have eh : e.h = h := b5 e List.mem_cons_self (by omega)
        refine Or.inr (Or.inl ⟨a1, a2, a3, c1, a, c0, e2, by rw [eh]; exact b2, ⟨b3, b4⟩, by rw [eh]; exact ht, fun fc => ?_⟩)
        obtain ⟨p, q, w, z1, z2, z3, z4⟩ := b6 (fc.up hfc)
        exact ⟨p, q, w, z1, by rw [eh]; exact z2, z4 e List.mem_cons_self hk, fun y hy => z4 y (List.mem_cons_of_mem _ hy)⟩
  · exact ⟨Or.inr (Or.inr (Or.inl a)), fun _ => Or.inr (Or.inr (Or.inl a))⟩
  · exact ⟨Or.inr (Or.inr (Or.inr a)), fun _ => Or.inr (Or.inr (Or.inr a))⟩
/-- what stays where an entry goes -/
def SAM (s S : CS) (r R : RS) : Prop := (∀ j : Nat, j ≠ 67 → j ≠ 69 → j ≠ 71 → S.i j = s.i j) ∧ (∀ k : Nat, k ≠ 64 → S.a k = s.a k) ∧ (S.r = s.r ∧ S.w = s.w ∧ S.o = s.o ∧ S.ot = s.ot ∧ S.oa = s.oa) ∧ (∀ j : Nat, j ≠ 81 → j ≠ 97 → j ≠ 99 → R.i j = r.i j) ∧ ∀ k : Nat, k ≠ 82 → k ≠ 83 → k ≠ 91 → R.a k = r.a k
theorem SAM.tlv {s S : CS} {r R : RS} {mu : Nat → Nat} {b : Nat} (m : SAM s S r R) (t : TLV s r mu b) : TLV S R mu b := by
  obtain ⟨m1, m2, ⟨m3, m4, m5, m6, m7⟩, m8, m9⟩ := m
  have i85 : R.i 85 = r.i 85 := m8 85 (by decide) (by decide) (by decide)
  refine TLV.of (by rw [m5]) (by rw [m7]) (by rw [m7]) (fun q => ?_) (by rw [i85]; exact Int.le_refl _) ?_ ?_ ?_ (fun i _ => ?_) (fun i _ => ?_) (m8 3 (by decide) (by decide) (by decide)) t
  · unfold inP at *
    rw [m3]
    exact q
  all_goals rw [m9 _ (by decide) (by decide) (by decide)]
theorem SAM.feq {s S : CS} {r R : RS} {mu : Nat → Nat} {c : List Ent} {m : Int} (h : SAM s S r R) : FEQ s S r R mu mu c m := by
  obtain ⟨m1, m2, ⟨m3, m4, m5, m6, m7⟩, m8, m9⟩ := id h
  exact ⟨fun i f _ hf => ⟨by rw [m3]; exact hf, by rw [m5], by rw [m6]⟩, fun b _ t => ⟨h.tlv t, rfl, by rw [m9 87 (by decide) (by decide) (by decide)]⟩, ⟨m2 17 (by decide), m9 21 (by decide) (by decide) (by decide), m9 23 (by decide) (by decide) (by decide), m9 31 (by decide) (by decide) (by decide), m9 32 (by decide) (by decide) (by decide)⟩, fun j k h1 h2 _ => by rw [m9 j (by omega) (by omega) (by omega)], fun a ha => ⟨fun k _ => by rw [m2 59 (by decide)], fun l _ => by rw [m9 84 (by decide) (by decide) (by decide)]⟩, fun j _ => by rw [m9 98 (by decide) (by decide) (by decide)]⟩
theorem SAM.rfx {s S : CS} {r R : RS} (m : SAM s S r R) : RFX r R := ⟨fun j hj => m.2.2.2.1 j (by omega) (by omega) (by omega), fun k hk => m.2.2.2.2 k (by omega) (by omega) (by omega)⟩
theorem tps_le {e : Ent} {c : List Ent} : tps c ≤ tps (e :: c) := by
  show tps c ≤ tps c + (if e.k = 1 then 2 else if e.k = 2 then 1 else 0)
  omega
/-- an entry goes -/
theorem pop_sam {nm : Nat → Nat → Prop} {s S : CS} {r R : RS} {mu : Nat → Nat} {AL : Als} {h u : Nat} {e : Ent} {c : List Ent} {n : Int} (l : LVR nm s r mu AL h (e :: c) n u) (sm : SAM s S r R) (mt : MTR S R) (fr : FRS s r mu AL c (R.i 97).toInt) (i67 : (S.i 67).toInt = (frs c : Int)) (i99 : (R.i 99).toInt = (c.length : Int)) (op : OPW s r c) (tk : S.i 71 = hS R 8) (nd : s.i 73 = 1 ∨ s.i 73 = 2 → ¬ (r.i 112).toInt = (c.length : Int) + 1) (hfc : e.k = 1 ∨ e.k = 2 → 0 ≤ (r.a 31 e.y).toInt → FCP r AL e.y) : LVR nm S R mu AL h c n u := by
  obtain ⟨l1, ⟨l2, l3, l4⟩, ⟨⟨d1, d2, d3, ⟨d4, d5⟩, d6, d7⟩, l6⟩, ⟨l7, l8⟩, l9, l10⟩ := l
  have tlv : ∀ b : Nat, TLV s r mu b → TLV S R mu b := fun b t => sm.tlv t
  have feq : FEQ s S r R mu mu c (R.i 97).toInt := sm.feq
  have rfx := sm.rfx
  obtain ⟨m1, m2, ⟨m3, m4, m5, m6, m7⟩, m8, m9⟩ := sm
  have i73 := m1 73 (by decide) (by decide) (by decide)
  have i85 : R.i 85 = r.i 85 := m8 85 (by decide) (by decide) (by decide)
  have i80 : R.i 80 = r.i 80 := m8 80 (by decide) (by decide) (by decide)
  have i95 : R.i 95 = r.i 95 := m8 95 (by decide) (by decide) (by decide)
  have i68 : S.i 68 = s.i 68 := m1 68 (by decide) (by decide) (by decide)
  have tl := tps_le (e := e) (c := c)
  refine ⟨(m1 72 (by decide) (by decide) (by decide)).trans l1, ⟨l2.of (m1 65 (by decide) (by decide) (by decide)) (m2 60 (by decide)) (m8 93 (by decide) (by decide) (by decide)) (m9 94 (by decide) (by decide) (by decide)) (fun z q => z (i73.trans q)), mt, fun k l q => ?_⟩, ⟨⟨fr.of feq, ⟨i67, i99⟩, tk, ⟨by rw [i85]; exact d4, by rw [i85, i80]; omega⟩, ?_, (m8 115 (by decide) (by decide) (by decide)).trans d7⟩, ?_⟩, ⟨l7, fun q => l8 (fun z => q (i73.trans z))⟩, ?_, l10.of (fun j hj => m1 j (by omega) (by omega) (by omega)) (fun k hk => m2 k (by omega)) rfx⟩
  · rw [m2 59 (by decide), m9 84 (by decide) (by decide) (by decide)]
    exact l4 k l q
  · unfold MUI at *
    rw [i85]
    exact d6
  · obtain ⟨o1, o2, o3, o4, o5, o6⟩ := op
    refine ⟨by rw [i68, i95]; exact o1, by rw [i95]; exact o2, by rw [i95]; exact o3, o4, fun k hk => ?_, by rw [i95]; exact o6.of (fun k _ => by rw [m9 103 (by decide) (by decide) (by decide)])⟩
    rw [i95] at hk
    rw [m2 63 (by decide), m9 96 (by decide) (by decide) (by decide)]
    exact o5 k hk
  · rw [i73, m1 74 (by decide) (by decide) (by decide), m1 75 (by decide) (by decide) (by decide), m4, m8 110 (by decide) (by decide) (by decide), m8 111 (by decide) (by decide) (by decide), m8 112 (by decide) (by decide) (by decide), m8 113 (by decide) (by decide) (by decide), m8 114 (by decide) (by decide) (by decide)]
    exact (l9.tl nd hfc).1.of (m2 17 (by decide)) (m9 21 (by decide) (by decide) (by decide)) (m9 31 (by decide) (by decide) (by decide)) (m9 23 (by decide) (by decide) (by decide)) (fun b _ t => ⟨tlv b t, rfl⟩)
