/-! places that are good by their own unit -/
theorem UNJ.g5 {FC : Nat → Prop} {s0 : CS} {r0 : RS} {nm : Nat → Nat → Prop} {AL : Als} {p q h w g : Nat} {c : List Ent} (u : UNJ FC s0 r0 nm AL p q h w 5 c) : UNJ FC s0 r0 nm AL p q h w g c := by
  rcases u with u | ⟨hq, u⟩
  · exact Or.inl u
  refine Or.inr ⟨hq, ?_⟩
  rcases u with u | u | u | u | u | u | u | u | u | u | u | u | u | u | u | u | u | u | u | u | u | u | u | u | u | u | u | u | u | u | u | u | u | u | u
  · exact Or.inl u
  · exact Or.inr (Or.inl u)
  · exact Or.inr (Or.inr (Or.inl u))
  · obtain ⟨a1, a2, g', a3, a4⟩ := u
    rcases a4 with a4 | ⟨-, a4, -⟩
    · exact Or.inr (Or.inr (Or.inr (Or.inl ⟨a1, a2, g', a3, Or.inl a4⟩)))
    · exact absurd a4 (by decide)
  · exact Or.inr (Or.inr (Or.inr (Or.inr (Or.inl u))))
  · exact Or.inr (Or.inr (Or.inr (Or.inr (Or.inr (Or.inl u)))))
  · obtain ⟨a1, h', g', a2, a3, a4, a5⟩ := u
    rcases a5 with a5 | ⟨-, a5⟩ | ⟨-, -, a5⟩ | ⟨-, -, a5⟩
    · exact Or.inr (Or.inr (Or.inr (Or.inr (Or.inr (Or.inr (Or.inl ⟨a1, h', g', a2, a3, a4, Or.inl a5⟩))))))
    · exact absurd a5 (by decide)
    · exact absurd a5 (by decide)
    · exact absurd a5 (by decide)
  · exact Or.inr (Or.inr (Or.inr (Or.inr (Or.inr (Or.inr (Or.inr (Or.inl u)))))))
  · obtain ⟨a1, a2, h', a3, a4, a5⟩ := u
    rcases a4 with a4 | a4
    · exact absurd a4 (by decide)
    · exact Or.inr (Or.inr (Or.inr (Or.inr (Or.inr (Or.inr (Or.inr (Or.inr (Or.inl ⟨a1, a2, h', a3, Or.inr a4, a5⟩))))))))
  · exact Or.inr (Or.inr (Or.inr (Or.inr (Or.inr (Or.inr (Or.inr (Or.inr (Or.inr (Or.inl u)))))))))
  · exact absurd u.2.1 (by decide)
  · obtain ⟨a1, h', a3, a4, a5⟩ := u
    rcases a5 with a5 | a5
    · exact absurd a5 (by decide)
    · exact Or.inr (Or.inr (Or.inr (Or.inr (Or.inr (Or.inr (Or.inr (Or.inr (Or.inr (Or.inr (Or.inr (Or.inl ⟨a1, h', a3, a4, Or.inr a5⟩)))))))))))
  · exact Or.inr (Or.inr (Or.inr (Or.inr (Or.inr (Or.inr (Or.inr (Or.inr (Or.inr (Or.inr (Or.inr (Or.inr (Or.inl u))))))))))))
  · exact Or.inr (Or.inr (Or.inr (Or.inr (Or.inr (Or.inr (Or.inr (Or.inr (Or.inr (Or.inr (Or.inr (Or.inr (Or.inr (Or.inl u)))))))))))))
  · exact Or.inr (Or.inr (Or.inr (Or.inr (Or.inr (Or.inr (Or.inr (Or.inr (Or.inr (Or.inr (Or.inr (Or.inr (Or.inr (Or.inr (Or.inl u))))))))))))))
  · exact Or.inr (Or.inr (Or.inr (Or.inr (Or.inr (Or.inr (Or.inr (Or.inr (Or.inr (Or.inr (Or.inr (Or.inr (Or.inr (Or.inr (Or.inr (Or.inl u)))))))))))))))
  · exact Or.inr (Or.inr (Or.inr (Or.inr (Or.inr (Or.inr (Or.inr (Or.inr (Or.inr (Or.inr (Or.inr (Or.inr (Or.inr (Or.inr (Or.inr (Or.inr (Or.inl u))))))))))))))))
  · exact Or.inr (Or.inr (Or.inr (Or.inr (Or.inr (Or.inr (Or.inr (Or.inr (Or.inr (Or.inr (Or.inr (Or.inr (Or.inr (Or.inr (Or.inr (Or.inr (Or.inr (Or.inl u)))))))))))))))))
  · exact Or.inr (Or.inr (Or.inr (Or.inr (Or.inr (Or.inr (Or.inr (Or.inr (Or.inr (Or.inr (Or.inr (Or.inr (Or.inr (Or.inr (Or.inr (Or.inr (Or.inr (Or.inr (Or.inl u))))))))))))))))))
  · exact Or.inr (Or.inr (Or.inr (Or.inr (Or.inr (Or.inr (Or.inr (Or.inr (Or.inr (Or.inr (Or.inr (Or.inr (Or.inr (Or.inr (Or.inr (Or.inr (Or.inr (Or.inr (Or.inr (Or.inl u)))))))))))))))))))
  · exact Or.inr (Or.inr (Or.inr (Or.inr (Or.inr (Or.inr (Or.inr (Or.inr (Or.inr (Or.inr (Or.inr (Or.inr (Or.inr (Or.inr (Or.inr (Or.inr (Or.inr (Or.inr (Or.inr (Or.inr (Or.inl u))))))))))))))))))))
  · exact absurd u.2.2.2.1 (by decide)
  · exact absurd u.2.2.1 (by decide)
  · exact Or.inr (Or.inr (Or.inr (Or.inr (Or.inr (Or.inr (Or.inr (Or.inr (Or.inr (Or.inr (Or.inr (Or.inr (Or.inr (Or.inr (Or.inr (Or.inr (Or.inr (Or.inr (Or.inr (Or.inr (Or.inr (Or.inr (Or.inr (Or.inl u)))))))))))))))))))))))
  · exact Or.inr (Or.inr (Or.inr (Or.inr (Or.inr (Or.inr (Or.inr (Or.inr (Or.inr (Or.inr (Or.inr (Or.inr (Or.inr (Or.inr (Or.inr (Or.inr (Or.inr (Or.inr (Or.inr (Or.inr (Or.inr (Or.inr (Or.inr (Or.inr (Or.inl u))))))))))))))))))))))))
  · exact Or.inr (Or.inr (Or.inr (Or.inr (Or.inr (Or.inr (Or.inr (Or.inr (Or.inr (Or.inr (Or.inr (Or.inr (Or.inr (Or.inr (Or.inr (Or.inr (Or.inr (Or.inr (Or.inr (Or.inr (Or.inr (Or.inr (Or.inr (Or.inr (Or.inr (Or.inl u)))))))))))))))))))))))))
  · exact Or.inr (Or.inr (Or.inr (Or.inr (Or.inr (Or.inr (Or.inr (Or.inr (Or.inr (Or.inr (Or.inr (Or.inr (Or.inr (Or.inr (Or.inr (Or.inr (Or.inr (Or.inr (Or.inr (Or.inr (Or.inr (Or.inr (Or.inr (Or.inr (Or.inr (Or.inr (Or.inl u))))))))))))))))))))))))))
  · exact Or.inr (Or.inr (Or.inr (Or.inr (Or.inr (Or.inr (Or.inr (Or.inr (Or.inr (Or.inr (Or.inr (Or.inr (Or.inr (Or.inr (Or.inr (Or.inr (Or.inr (Or.inr (Or.inr (Or.inr (Or.inr (Or.inr (Or.inr (Or.inr (Or.inr (Or.inr (Or.inr (Or.inl u)))))))))))))))))))))))))))
  · exact Or.inr (Or.inr (Or.inr (Or.inr (Or.inr (Or.inr (Or.inr (Or.inr (Or.inr (Or.inr (Or.inr (Or.inr (Or.inr (Or.inr (Or.inr (Or.inr (Or.inr (Or.inr (Or.inr (Or.inr (Or.inr (Or.inr (Or.inr (Or.inr (Or.inr (Or.inr (Or.inr (Or.inr (Or.inl u))))))))))))))))))))))))))))
  · exact Or.inr (Or.inr (Or.inr (Or.inr (Or.inr (Or.inr (Or.inr (Or.inr (Or.inr (Or.inr (Or.inr (Or.inr (Or.inr (Or.inr (Or.inr (Or.inr (Or.inr (Or.inr (Or.inr (Or.inr (Or.inr (Or.inr (Or.inr (Or.inr (Or.inr (Or.inr (Or.inr (Or.inr (Or.inr (Or.inl u)))))))))))))))))))))))))))))
  · exact Or.inr (Or.inr (Or.inr (Or.inr (Or.inr (Or.inr (Or.inr (Or.inr (Or.inr (Or.inr (Or.inr (Or.inr (Or.inr (Or.inr (Or.inr (Or.inr (Or.inr (Or.inr (Or.inr (Or.inr (Or.inr (Or.inr (Or.inr (Or.inr (Or.inr (Or.inr (Or.inr (Or.inr (Or.inr (Or.inr (Or.inl u))))))))))))))))))))))))))))))
  · exact Or.inr (Or.inr (Or.inr (Or.inr (Or.inr (Or.inr (Or.inr (Or.inr (Or.inr (Or.inr (Or.inr (Or.inr (Or.inr (Or.inr (Or.inr (Or.inr (Or.inr (Or.inr (Or.inr (Or.inr (Or.inr (Or.inr (Or.inr (Or.inr (Or.inr (Or.inr (Or.inr (Or.inr (Or.inr (Or.inr (Or.inr (Or.inl u)))))))))))))))))))))))))))))))
  · exact Or.inr (Or.inr (Or.inr (Or.inr (Or.inr (Or.inr (Or.inr (Or.inr (Or.inr (Or.inr (Or.inr (Or.inr (Or.inr (Or.inr (Or.inr (Or.inr (Or.inr (Or.inr (Or.inr (Or.inr (Or.inr (Or.inr (Or.inr (Or.inr (Or.inr (Or.inr (Or.inr (Or.inr (Or.inr (Or.inr (Or.inr (Or.inr (Or.inl u))))))))))))))))))))))))))))))))
  · exact Or.inr (Or.inr (Or.inr (Or.inr (Or.inr (Or.inr (Or.inr (Or.inr (Or.inr (Or.inr (Or.inr (Or.inr (Or.inr (Or.inr (Or.inr (Or.inr (Or.inr (Or.inr (Or.inr (Or.inr (Or.inr (Or.inr (Or.inr (Or.inr (Or.inr (Or.inr (Or.inr (Or.inr (Or.inr (Or.inr (Or.inr (Or.inr (Or.inr (Or.inl u)))))))))))))))))))))))))))))))))
  · rcases u.1 with ⟨-, z⟩ | ⟨-, z⟩ <;> exact absurd z (by decide)
/-- the places of P may be taken for good, if each is good behind its first unit -/
theorem gu_acc {FC : Nat → Prop} {s0 : CS} {r0 : RS} {nm : Nat → Nat → Prop} {X P : Als} (hX : ∀ (p q h w g : Nat) (c : List Ent), X p q h w g c → g ≤ 1) (hP : ∀ (p q h w g : Nat) (c : List Ent), P p q h w g c → g ≤ 1) (z : ∀ (p q h w g : Nat) (c : List Ent), P p q h w g c → GU FC s0 r0 nm (UN2 X P) p q h w 5 c) : SUB P (GGX FC s0 r0 nm X) := GGX.acc (fun p q h w g c a => by
  rcases z p q h w g c a with z | z | z
  · exact GGX.inn ⟨z.out.1, z.out.2.g5⟩
  · have := hX _ _ _ _ _ _ z
    omega
  · have := hP _ _ _ _ _ _ z
    omega)
/-- what is good, with the flags 0 and 1 -/
def G01 (FC : Nat → Prop) (s0 : CS) (r0 : RS) (nm : Nat → Nat → Prop) (X : Als) : Als := fun p q h w g c => GU FC s0 r0 nm X p q h w g c ∧ g ≤ 1
theorem gu_acc2 {FC : Nat → Prop} {s0 : CS} {r0 : RS} {nm : Nat → Nat → Prop} {X P : Als} (hP : ∀ (p q h w g : Nat) (c : List Ent), P p q h w g c → g ≤ 1) (z : ∀ (p q h w g : Nat) (c : List Ent), P p q h w g c → GU FC s0 r0 nm (UN2 (G01 FC s0 r0 nm X) P) p q h w 5 c) : SUB P (GU FC s0 r0 nm X) := fun p q h w g c a => Or.inl (GGX.mono (fun _ _ _ _ _ _ k => k.1) _ _ _ _ _ _ (gu_acc (fun _ _ _ _ _ _ k => k.2) hP z p q h w g c a))
/-- what was good with the flags 0 and 1 is good also beside P -/
theorem G01.up {FC : Nat → Prop} {s0 : CS} {r0 : RS} {nm : Nat → Nat → Prop} {X P : Als} {p q h w g : Nat} {c : List Ent} (z : GU FC s0 r0 nm X p q h w g c) (l : g ≤ 1) : GU FC s0 r0 nm (UN2 (G01 FC s0 r0 nm X) P) p q h w g c := Or.inr (Or.inl ⟨z, l⟩)
theorem G01.new {FC : Nat → Prop} {s0 : CS} {r0 : RS} {nm : Nat → Nat → Prop} {X P : Als} {p q h w g : Nat} {c : List Ent} (z : P p q h w g c) : GU FC s0 r0 nm (UN2 (G01 FC s0 r0 nm X) P) p q h w g c := Or.inr (Or.inr z)
theorem HRW.m0 {s0 : CS} {r0 : RS} {A B : Als} {e : Ent} {c : List Ent} {W : Nat} (s : S01 A B) : ∀ (n p : Nat) (k : Int32), HRW s0 r0 A e c W n p k → HRW s0 r0 B e c W n p k := by
  intro n
  induction n with
  | zero => intro _ _ h; exact h
  | succ n ih =>
    intro p k h
    obtain ⟨h0, h⟩ := h
    refine ⟨h0, ?_⟩
    rcases h with h | ⟨h1, j, pb, qb, z, l, w, a2, a3, a4, a5, a6, ⟨a7, a8⟩, a9⟩ | ⟨h1, p', h2, h3⟩
    · exact Or.inl h
    · exact Or.inr (Or.inl ⟨h1, j, pb, qb, z, l, w, a2, a3, a4, a5, a6, ⟨s _ _ _ _ _ _ (Nat.zero_le _) a7, a8⟩, ih _ _ a9⟩)
    · exact Or.inr (Or.inr ⟨h1, p', h2, ih _ _ h3⟩)
theorem TYC.m0 {s0 : CS} {r0 : RS} {A B : Als} {W : Nat} (s : S01 A B) : ∀ {c : List Ent}, TYC s0 r0 A W c → TYC s0 r0 B W c
  | [], h => ⟨fun z p q h' w g c hg => s _ _ _ _ _ _ hg (h.1 z p q h' w g c hg), h.2⟩
  | _ :: _, ⟨h1, h2, h3⟩ => ⟨fun z => by
      obtain ⟨n, p, a, b, d⟩ := h1 z
      exact ⟨n, p, a, b, HRW.m0 s n p _ d⟩, fun z => by
      rcases h2 z with h | ⟨p, q, w, a, b, d, f, g⟩
      · exact Or.inl h
      · exact Or.inr ⟨p, q, w, a, b, d, s _ _ _ _ _ _ (Nat.zero_le _) f, g⟩, TYC.m0 s h3⟩
theorem GF1.m0 {FC : Nat → Prop} {s0 : CS} {r0 : RS} {A B : Als} {c : List Ent} {h u : Nat} {T x d : Int32} (s : S01 A B) : GF1 FC s0 r0 A c h T x d u → GF1 FC s0 r0 B c h T x d u := fun ⟨c1, c0, a, b, e, f⟩ => ⟨c1, c0, a, b, e, fun z => by
  obtain ⟨p, q, w, g1, g2, g3⟩ := f z
  exact ⟨p, q, w, g1, s _ _ _ _ _ _ (Nat.zero_le _) g2, g3⟩⟩
theorem GF2.m0 {FC : Nat → Prop} {s0 : CS} {r0 : RS} {A B : Als} {c : List Ent} {h u : Nat} {T d : Int32} (s : S01 A B) : GF2 FC s0 r0 A c h T d u → GF2 FC s0 r0 B c h T d u := fun ⟨c1, a', c0, a, a2, b, e, f⟩ => ⟨c1, a', c0, a, a2, b, e, fun z => by
  obtain ⟨p, q, w, g1, g2, g3⟩ := f z
  exact ⟨p, q, w, g1, s _ _ _ _ _ _ (Nat.zero_le _) g2, g3⟩⟩
section
variable {FC : Nat → Prop} {SF : CS} {U : RS} {nm : Nat → Nat → Prop} {X Y : Als} {G : GHT} {ω h0 : Nat} {c0 : List Ent}
theorem GU2.m0 {p q h w : Nat} {c : List Ent} (s : S01 (GU FC SF U nm X) (GU FC SF U nm Y)) (z : GU2 FC SF U nm X p q h w c) : GU2 FC SF U nm Y p q h w c := ⟨s _ _ _ _ _ _ (Nat.zero_le _) z.1, s _ _ _ _ _ _ (Nat.le_refl _) z.2⟩
theorem PRT.m0 {x y : Int32} {j : JCT} (s : S01 (GU FC SF U nm X) (GU FC SF U nm Y)) (z : PRT FC SF U nm X x y ω j) : PRT FC SF U nm Y x y ω j := by
  obtain ⟨p, q, a, b, d⟩ := z
  exact ⟨p, q, a, b, s _ _ _ _ _ _ (Nat.zero_le _) d⟩
theorem PRB.m0 {x y x' : Int32} {j : JCT} (s : S01 (GU FC SF U nm X) (GU FC SF U nm Y)) (z : PRB FC SF U nm X x y x' ω j) : PRB FC SF U nm Y x y x' ω j := by
  obtain ⟨p, q, p1, a, b, d, e, f⟩ := z
  exact ⟨p, q, p1, a, b, d, e, s _ _ _ _ _ _ (Nat.zero_le _) f⟩
theorem HED.m0 {x y : Int32} {j : JCT} (s : S01 (GU FC SF U nm X) (GU FC SF U nm Y)) (z : HED FC SF U nm X x y ω j) : HED FC SF U nm Y x y ω j := by
  obtain ⟨p, q, a, b, d, e⟩ := z
  exact ⟨p, q, a, b, d, e.m0 s⟩
theorem PRN.m0 {x : Int32} {i : Nat} {j : JCT} (s : S01 (GU FC SF U nm X) (GU FC SF U nm Y)) (z : PRN FC SF U nm X x i ω j) : PRN FC SF U nm Y x i ω j := by
  obtain ⟨p, q, a, b, d⟩ := z
  exact ⟨p, q, a, b, s _ _ _ _ _ _ (Nat.zero_le _) d⟩
theorem TRH.m0 {r : RVW} {j : JCT} (s : S01 (GU FC SF U nm X) (GU FC SF U nm Y)) (z : TRH FC SF U nm X G ω r j) : TRH FC SF U nm Y G ω r j := ⟨fun e he => ⟨fun hk => by
  obtain ⟨n, p, a, b, d⟩ := (z.1 e he).1 hk
  exact ⟨n, p, a, b, HRW.m0 s n p _ d⟩, fun hk => by
  rcases (z.1 e he).2 hk with h | ⟨p, q, w, a, b, d, f, g⟩
  · exact Or.inl h
  · exact Or.inr ⟨p, q, w, a, b, d, s _ _ _ _ _ _ (Nat.zero_le _) f, g⟩⟩, fun h1 h2 => by
  obtain ⟨p, q, a, b, d⟩ := z.2.1 h1 h2
  exact ⟨p, q, a, b, s _ _ _ _ _ _ (Nat.zero_le _) d⟩, fun h1 e he => by
  obtain ⟨n, p, a, b, d, f⟩ := z.2.2.1 h1 e he
  refine ⟨n, p, a, b, HRW.m0 s n p _ d, ?_⟩
  rcases f with h | ⟨p, q, w, a, b, d, f, g⟩
  · exact Or.inl h
  · exact Or.inr ⟨p, q, w, a, b, d, s _ _ _ _ _ _ (Nat.zero_le _) f, g⟩, z.2.2.2⟩
theorem JRH.m0 {col : Nat → Option (Nat × Bool)} {YJ : Nat → List Nat} {r : RVW} {j : JCT} (s : S01 (GU FC SF U nm X) (GU FC SF U nm Y)) (z : JRH FC SF U nm X G col YJ ω r j) : JRH FC SF U nm Y G col YJ ω r j := ⟨fun q => (z.1 q).m0 s, fun q y => (z.2.1 q y).m0 s, fun q => ⟨fun y => ((z.2.2.1 q).1 y).m0 s, (z.2.2.1 q).2.m0 s⟩, fun q => (z.2.2.2.1 q).m0 s, fun q => ⟨fun y => ((z.2.2.2.2.1 q).1 y).m0 s, (z.2.2.2.2.1 q).2.m0 s⟩, fun q => ⟨(z.2.2.2.2.2.1 q).1.m0 s, (z.2.2.2.2.2.1 q).2.m0 s⟩, fun q => s _ _ _ _ _ _ (Nat.zero_le _) (z.2.2.2.2.2.2.1 q), fun q => (z.2.2.2.2.2.2.2.1 q).m0 s, fun q i fy => ⟨fun c => ((z.2.2.2.2.2.2.2.2 q i fy).1 c).m0 s, fun c => ((z.2.2.2.2.2.2.2.2 q i fy).2 c).m0 s⟩⟩
theorem JRS.m0 {col : Nat → Option (Nat × Bool)} {YJ : Nat → List Nat} (s : S01 (GU FC SF U nm X) (GU FC SF U nm Y)) : ∀ (V : List RVW), JRS FC SF U nm X G col YJ ω h0 c0 V → JRS FC SF U nm Y G col YJ ω h0 c0 V
  | [], _ => True.intro
  | _ :: V, z => ⟨z.1.m0 s, JRS.m0 s V z.2⟩
end
/-- do: its row -/
theorem JRW.doo {N : Nat} {A : JBA} {d1 dz : Int32} {e1 : Int} {U : RS} {B C0 R Y : CS} {b s y0 z1 u : RS} {V : List RVW} {r : RVW} {C6 am : Unit × CS} {z6 : Int32 × RS} {w1 w2 w3 : Int32 × CS} {Q1 Q2 : CS} (j1 : JRG A U B b V s [] (JQG U 1264 0 1 (pcC C0) (pcR y0) JQZ) 1 0 C0 y0) (ev2 : ENV d1 C0 y0) (et1 : f_X0_newTarget N C0 = some w1) (et2 : f_X0_newTarget N w1.2 = some w2) (k1 : CD1 0 0 w2.2 Q1) (l1 : ∀ a b : Int, CT7 a b w2.2 Q1) (m1 : Q1.i 20 = w2.2.i 20 ∧ Q1.i 50 = w2.2.i 50 ∧ Q1.i 44 = w2.2.i 44) (et3 : f_X0_newTarget N Q1 = some w3) (k2 : CD1 (-2) e1 w3.2 Q2) (l2 : ∀ a b : Int, CT7 a b w3.2 Q2) (m2 : Q2.i 20 = w3.2.i 20) (he : e1 ≤ -3 ∨ (e1 ≤ -2 ∧ ¬ ALN (R.i 43))) (h44 : (Q2.i 44).toInt ≤ 900) (q1 : ∀ c : Int, CD2 c y0 z1) (r1 : z1.i 20 = y0.i 20) (n1 : NMV y0 z1) (ea : f_X0_aim N Q2 w3.1 = some am) (ez : ENV dz Y z1) (hz1 : 1 ≤ phI z1) (e6 : f_X0_add N am.2 51 0 = some C6) (hz6 : f_X12_emit N z1 1 0 = some z6) (c5 : CD1 0 0 C6.2 R) (t5 : ∀ a b : Int, CT7 a b C6.2 R) (p5 : R.i 20 = C6.2.i 20) (q5 : ∀ c : Int, CD2 c z6.2 u) (r5 : u.i 20 = z6.2.i 20) (n45 : C6.2.i 50 = z6.2.i 38) (n5 : NMV z6.2 u) (hr : r.v = 206) (rx : r.1 9 = w2.1) (rn : r.1 10 = w1.1) (rh : r.1 11 = w3.1) (rq : r.2.1 66 = z6.1) (r36 : R.i 36 = 1) (lf : LPF s u r.2.2.2) (ro2 : r.1 2 = R.i 38) (rn5 : NT5 (r.1 9) ∧ NT5 (r.1 10)) (l11 : (s.i 11).toInt ≤ (u.i 11).toInt) (l19 : (s.i 19).toInt ≤ (u.i 19).toInt) (pl : ∀ q ∈ V, q.2.2.1 < r.2.2.1) : JRW A U B b (r :: V) R u := by
  have g44 : (C0.i 44).toInt = (y0.i 11).toInt := by rw [ev2.p44.1]
  have g6 := (i11_hi ev2).2
  have z20 := ez.p20
  have f1 : w1.2.i 44 = C0.i 44 ∧ w1.2.i 50 = C0.i 50 ∧ w1.2.i 20 = C0.i 20 := by
    unfold f_X0_newTarget at et1
    cases et1
    exact ⟨rfl, rfl, rfl⟩
  have f2 : w2.2.i 44 = w1.2.i 44 ∧ w2.2.i 50 = w1.2.i 50 ∧ w2.2.i 20 = w1.2.i 20 := by
    unfold f_X0_newTarget at et2
    cases et2
    exact ⟨rfl, rfl, rfl⟩
  have f3 : w3.2.i 44 = Q1.i 44 ∧ w3.2.i 50 = Q1.i 50 ∧ w3.2.i 20 = Q1.i 20 := by
    unfold f_X0_newTarget at et3
    cases et3
    exact ⟨rfl, rfl, rfl⟩
  have a20 : am.2.i 20 = Q2.i 20 ∧ am.2.i 44 = Q2.i 44 := by
    unfold f_X0_aim at ea
    cases ea
    exact ⟨rfl, rfl⟩
  have n50 := ev2.2.1.1
  have j2 := (j1.nt et1 (by omega) (by omega)).nt et2 (by rw [f1.1]; omega) (by omega)
  have j3 := j2.cod (jsp_tok k1 l1 (fun _ => CD2.rf _ _) (f2.2.1.trans (f1.2.1.trans n50)) (NMV.rf _))
  have j4 := j3.nt et3 (by rw [m1.2.2, f2.1, f1.1]; omega) (by omega)
  have j5 := j4.cod (jsp_tok k2 l2 q1 (f3.2.1.trans (m1.2.1.trans (f2.2.1.trans (f1.2.1.trans n50)))) n1)
  have e1' : e1 ≤ 50 := by omega
  have j6 := JRG.aih (W1 := []) (W2 := [tv w2.1, tv w1.1]) (K' := fun FC SF nm X ω j Z => (cTg SF w3.1).toInt = ((pcC Q2 : Nat) : Int) ∧ JQG U 1264 0 1 (pcC C0) (pcR y0) JQZ FC SF nm X ω j Z) j5 ea h44 (by omega) (fun FC SF nm X ω j Z h k => ⟨h, k⟩)
  have pq : Q2.i 20 = C0.i 20 := by rw [m2, f3.2.2, m1.1, f2.2.2, f1.2.2]
  have pc1 : pcC am.2 = pcC Q2 := by unfold pcC; rw [a20.1]
  have pc0 : pcC am.2 = pcC C0 := by unfold pcC; rw [a20.1, pq]
  have pr1 : pcR z1 = pcR y0 := by unfold pcR; rw [r1]
  have zz : z6.1 = z1.i 20 := (cd_emit hz6 z20.1 (by omega)).2.1
  have j7 : JRG A U B b V s [hv w3.1, tv w2.1, tv w1.1] (JQA U 1264 0 (pcC am.2) (pcR z1) (fun FC SF nm X ω j Z => Z ∧ HE5 FC SF U nm X w3.1 (z1.i 20) ω j)) (-1) (e1 + 3) am.2 z1 := j6.imp (by omega) (by omega) (fun FC SF nm X ω j Z _ _ _ _ _ r12 k q => by
    refine ⟨k.2 ?_, pcC am.2, pcR z1, by rw [pc1]; exact k.1, (Int.toNat_of_nonneg z20.1).symm, by unfold pcC; omega, q 5⟩
    rw [← pc0, ← pr1]
    exact q 1)
  have j8 := j7.stp (δ' := 2528) e6 (by rw [a20.2]; exact h44) (by omega) hz6 ⟨z20.1, by omega⟩ (by omega)
  have j9 := j8.cod (jsp_tok c5 t5 q5 n45 n5)
  have pc5 : pcC R = pcC C6.2 := by unfold pcC; rw [p5]
  have pr5 : pcR u = pcR z6.2 := by unfold pcR; rw [r5]
  have jl : jlv r.v = 2528 := by rw [hr]; rfl
  refine j9.ps0 ⟨by omega, fun y => by rcases y with y | y <;> rw [hr] at y <;> exact absurd y (by decide), fun _ => by rw [rh]; exact List.mem_cons_self, by rw [hr]; decide⟩ (by rcases he with h | ⟨h, h'⟩; exact Or.inl (by omega); exact Or.inr ⟨by omega, h'⟩) lf.1 l11 l19 pl (fun q => ?_) (by rw [hr]; decide) (by rw [hr]; decide) (by rw [hr]; decide) (by rw [hr]; decide) (fun k q => ?_) ?_ (fun _ => lf.gl ro2 rn5 ⟨fun _ => by rw [rq, zz]; exact z20.1, fun y => absurd (hr.symm.trans y) (by decide)⟩ (by rw [hr]; decide)) r36 (fun FC SF nm X G col YJ ω j Z hω r12 hc hh k jr cur => ?_)
  · rcases q with q | q | q | q <;> rw [hr] at q <;> exact absurd q (by decide)
  · unfold rsite at q
    rw [hr] at q
    rcases q with ⟨q, -⟩ | ⟨q, -⟩ | ⟨q, -⟩ | ⟨q, -⟩
    · rcases q with q | q | q <;> exact absurd q (by decide)
    · exact absurd q (by decide)
    · rcases q with q | q <;> exact absurd q (by decide)
    · rcases q with q | q <;> exact absurd q (by decide)
  · have e1 : rtgs r = [w1.1, w2.1] := by
      unfold rtgs
      rw [hr, if_neg (by decide), if_neg (by decide), if_pos (by decide), rx, rn]
    have e2 : ptl [hv w3.1, tv w2.1, tv w1.1] = [w2.1, w1.1] := by
      show rtgs (hv w3.1) ++ (rtgs (tv w2.1) ++ (rtgs (tv w1.1) ++ [])) = _
      rw [hv.tgs, tv.tgs, tv.tgs]
      rfl
    rw [e1]
    exact (List.Perm.swap w2.1 w1.1 []).trans (List.Perm.of_eq e2.symm)
  · rw [jl, pc5, pr5] at cur
    have e9 : ω + (j.l + 2528) - pcC C6.2 = ω + j.l + 2528 - pcC C6.2 := by omega
    have c2 := cur.2
    rw [e9] at c2
    have z := k c2
    refine ⟨z.1, fun q => absurd (hr.symm.trans q) (by decide), fun _ => ?_, fun q => absurd (hr.symm.trans q) (by decide), fun q => absurd (hr.symm.trans q) (by decide), fun q => absurd (hr.symm.trans q) (by decide)⟩
    rw [rh, rq, zz]
    exact z.2
