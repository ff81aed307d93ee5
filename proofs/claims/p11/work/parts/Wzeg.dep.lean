/-! both readers: depth and entries by the rows' sorts -/
/-- what is open between a row and the top: heights, costs, the tries among it -/
theorem JCX.app (G : GHT) (ω h0 : Nat) (c0 : List Ent) (V2 : List RVW) : ∀ V1 : List RVW, (JCX G ω h0 c0 V2).l ≤ (JCX G ω h0 c0 (V1 ++ V2)).l ∧ ∃ c1 : List Ent, (JCX G ω h0 c0 (V1 ++ V2)).c = c1 ++ (JCX G ω h0 c0 V2).c ∧ HTS c1 h0 ∧ (∀ e ∈ c1, e.k = 1 ∨ e.k = 2 → ω + (JCX G ω h0 c0 V2).l ≤ e.u ∧ ∃ q ∈ V1, isWl q.v ∧ e.y = (q.2.1 66).toNatClampNeg)
  | [] => ⟨Nat.le_refl _, [], rfl, fun e he => absurd he List.not_mem_nil, fun e he => absurd he List.not_mem_nil⟩
  | r :: V1 => by
    obtain ⟨i0, c1, i1, i2, i3⟩ := JCX.app G ω h0 c0 V2 V1
    have h1 := (JCX.cnt G ω h0 c0 (V1 ++ V2)).1
    obtain ⟨-, -, j3⟩ := jen.cnt (G := G) (ω := ω) (r := r) (h := (JCX G ω h0 c0 (V1 ++ V2)).h) (l := (JCX G ω h0 c0 (V1 ++ V2)).l)
    refine ⟨?_, jen G ω r (JCX G ω h0 c0 (V1 ++ V2)).h (JCX G ω h0 c0 (V1 ++ V2)).l ++ c1, ?_, fun e he hk => ?_, fun e he hk => ?_⟩
    · show (JCX G ω h0 c0 V2).l ≤ (JCX G ω h0 c0 (V1 ++ V2)).l + jlv r.v
      omega
    · show jen G ω r (JCX G ω h0 c0 (V1 ++ V2)).h (JCX G ω h0 c0 (V1 ++ V2)).l ++ (JCX G ω h0 c0 (V1 ++ V2)).c = _
      rw [i1, List.append_assoc]
    · rcases List.mem_append.mp he with z | z
      · exact (j3 e z).1.trans h1
      · exact i2 e z hk
    · rcases List.mem_append.mp he with z | z
      · obtain ⟨k1, k2, k3⟩ := (j3 e z).2 hk
        exact ⟨by rw [k1]; omega, r, List.mem_cons_self, k2, k3⟩
      · obtain ⟨k1, q, hq, k2⟩ := i3 e z hk
        exact ⟨k1, q, List.mem_cons_of_mem _ hq, k2⟩
theorem jen.wl {G : GHT} {ω : Nat} {r : RVW} {h l : Nat} (w : isWl r.v) (n : ¬ r.v = 305) : ∃ e ∈ jen G ω r h l, (e.k = 1 ∨ e.k = 2) ∧ e.y = (r.2.1 66).toNatClampNeg := by
  unfold jen
  rcases w with w | w | w
  · rw [if_neg (by rw [w]; decide), if_pos w]
    exact ⟨_, List.mem_singleton.mpr rfl, Or.inl rfl, rfl⟩
  · rw [if_neg (by rw [w]; decide), if_neg (by rw [w]; decide), if_pos w]
    exact ⟨_, List.mem_singleton.mpr rfl, Or.inr rfl, rfl⟩
  · exact absurd w n
/-- each try between has its entry between -/
theorem JCX.wls (G : GHT) (ω h0 : Nat) (c0 : List Ent) (V2 : List RVW) : ∀ (V1 : List RVW) (c1 : List Ent), (JCX G ω h0 c0 (V1 ++ V2)).c = c1 ++ (JCX G ω h0 c0 V2).c → ∀ q ∈ V1, isWl q.v → ¬ q.v = 305 → ∃ e ∈ c1, (e.k = 1 ∨ e.k = 2) ∧ e.y = (q.2.1 66).toNatClampNeg
  | [], _, _, q, hq, _, _ => absurd hq List.not_mem_nil
  | r :: V1, c1, h, q, hq, w, n => by
    obtain ⟨-, c2, i1, -, -⟩ := JCX.app G ω h0 c0 V2 V1
    have h' : jen G ω r (JCX G ω h0 c0 (V1 ++ V2)).h (JCX G ω h0 c0 (V1 ++ V2)).l ++ (JCX G ω h0 c0 (V1 ++ V2)).c = c1 ++ (JCX G ω h0 c0 V2).c := h
    rw [i1, ← List.append_assoc] at h'
    have e1 := List.append_cancel_right h'
    rw [← e1]
    rcases List.mem_cons.mp hq with z | z
    · rw [z] at w n ⊢
      obtain ⟨e, he, k⟩ := jen.wl (G := G) (ω := ω) (h := (JCX G ω h0 c0 (V1 ++ V2)).h) (l := (JCX G ω h0 c0 (V1 ++ V2)).l) w n
      exact ⟨e, List.mem_append_left _ he, k⟩
    · obtain ⟨e, he, k⟩ := JCX.wls G ω h0 c0 V2 V1 c2 i1 q z w n
      exact ⟨e, List.mem_append_right _ he, k⟩
theorem frs.z {c : List Ent} (h : frs c = 0) : ∀ e ∈ c, 3 < e.k := by
  induction c with
  | nil => exact fun e he => absurd he List.not_mem_nil
  | cons a c ih =>
    have h' : frs c + (if a.k ≤ 3 then 1 else 0) = 0 := h
    intro e he
    rcases List.mem_cons.mp he with z | z
    · rw [z]
      by_cases q : a.k ≤ 3
      · rw [if_pos q] at h'
        omega
      · omega
    · exact ih (by omega) e z
theorem jmp_l {w p : Nat} (h : p < 1200) : w + 2 ≤ w + 1264 - p := by omega
/-- a jump to the row r: LEAVE or GOTO in the class, GO in the reference -/
theorem gu_jmp2 {FC : Nat → Prop} {SF : CS} {U : RS} {nm : Nat → Nat → Prop} {X : Als} {G : GHT} {ω h0 : Nat} {c0 : List Ent} {V1 V2 : List RVW} {p q g : Nat} {x : Int32} (pq : PQX SF U p q) (hc : HC0 nm h0 (JCX G ω h0 c0 (V1 ++ V2)).c) (ty : TYC SF U (GU FC SF U nm X) (ω + (JCX G ω h0 c0 (V1 ++ V2)).t) (JCX G ω h0 c0 (V1 ++ V2)).c) (go : U.a 21 q = 36) (d23 : (U.a 23 q).toInt = ((JCX G ω h0 c0 V2).c.length : Int)) (n305 : ∀ y ∈ V1, ¬ y.v = 305) (cl : (SF.a 15 p = 30 ∧ SF.a 16 p = x ∧ sfr V1 = 0) ∨ (SF.a 15 p = 60 ∧ (SF.a 16 p - SF.a 16 p / 32 * 32).toInt = (frs (JCX G ω h0 c0 V2).c : Int) ∧ SF.a 16 p / 32 = x)) (tg : (∀ y ∈ V1, isWl y.v → 0 ≤ (U.a 31 (y.2.1 66).toNatClampNeg).toInt → FC (y.2.1 66).toNatClampNeg) → ∃ p' q' l2 : Nat, l2 ≤ (JCX G ω h0 c0 V2).l ∧ (cTg SF x).toInt = (p' : Int) ∧ (U.a 22 q).toInt = (q' : Int) ∧ GU FC SF U nm X p' q' h0 (ω + l2 - p') 0 (JCX G ω h0 c0 V2).c) : GU FC SF U nm X p q h0 (ω + (JCX G ω h0 c0 (V1 ++ V2)).l + 1264 - p) g (JCX G ω h0 c0 (V1 ++ V2)).c := by
  obtain ⟨i0, c1, i1, i2, i3⟩ := JCX.app G ω h0 c0 V2 V1
  have wls := JCX.wls G ω h0 c0 V2 V1 c1 i1
  have tl := JCX.tl G ω h0 c0 (V1 ++ V2)
  have p12 := pq.1
  have jl := jmp_l (w := ω + (JCX G ω h0 c0 (V1 ++ V2)).l) p12
  have f0 : sfr V1 = 0 → ∀ e ∈ c1, 3 < e.k := fun z => by
    refine frs.z ?_
    have k1 := (JCX.cnt G ω h0 c0 (V1 ++ V2)).2.1
    have k2 := (JCX.cnt G ω h0 c0 V2).2.1
    have k3 : ∀ V : List RVW, sfr (V ++ V2) = sfr V + sfr V2 := fun V => by
      induction V with
      | nil => exact (Nat.zero_add _).symm
      | cons r V ih =>
        show sfr (V ++ V2) + dfr r.v = (sfr V + dfr r.v) + sfr V2
        rw [ih]
        omega
    rw [i1, frs.app, k3, z, k2] at k1
    omega
  rcases cl with ⟨a1, a2, a3⟩ | ⟨a1, a2, a3⟩
  · obtain ⟨p', q', l2, hl, t1, t2, t3⟩ := tg (fun y hy w _ => by
      exfalso
      obtain ⟨e, he, k, -⟩ := wls y hy w (n305 y hy)
      have := f0 a3 e he
      omega)
    exact gi_UGo3 (pq.hc hc) pq.2.1 ⟨a1, go, c1, (JCX G ω h0 c0 V2).c, i1, f0 a3, d23, p', q', ω + l2 - p', ⟨by rw [a2]; exact t1, t2⟩, by omega, t3⟩
  · refine gi_VGo (pq.hc hc) pq.2.1 ⟨a1, go, ω + (JCX G ω h0 c0 (V1 ++ V2)).l, jl, ty.up (by omega), c1, (JCX G ω h0 c0 V2).c, i1, ⟨a2, d23⟩, i2, fun fb => ?_⟩
    obtain ⟨p', q', l2, hl, t1, t2, t3⟩ := tg (fun y hy w h31 => by
      obtain ⟨e, he, k, ey⟩ := wls y hy w (n305 y hy)
      have z := fb e he k
      rw [ey] at z
      exact z h31)
    exact ⟨p', q', ω + l2 - p', ⟨by rw [a3]; exact t1, t2⟩, t3, by omega, fun e he k => by have := (i3 e he k).1; omega⟩
