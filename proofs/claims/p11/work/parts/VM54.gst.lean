/-! a formula's units, one by one -/
section
variable {FC : Nat → Prop} {s0 : CS} {r0 : RS} {nm : Nat → Nat → Prop} {X : Als} {p q h w g : Nat} {c : List Ent}
theorem NXW.of {A : Als} {g' : Nat} (z : A p q h w g' c) (n : Nat) : NXW A p q h (w + n) n g' c := ⟨w, Nat.le_refl _, z⟩
theorem JX.of {A : Als} {t x : Int32} {g' v : Nat} (ht : (cTg s0 t).toInt = (p : Int)) (hx : x.toInt = (q : Int)) (z : A p q h w g' c) (n : Nat) (l : w + n ≤ v) : JX s0 A t x h v n g' c := ⟨p, q, w, ⟨ht, hx⟩, l, z⟩
/-- what every place asks -/
def HC0 (nm : Nat → Nat → Prop) (h : Nat) (c : List Ent) : Prop := CTK nm c ∧ ops c ≤ 320 ∧ frs c ≤ 22 ∧ ∀ e ∈ c, e.h ≤ h
theorem HC0.up {h2 : Nat} (z : HC0 nm h c) (l : h ≤ h2) : HC0 nm h2 c := ⟨z.1, z.2.1, z.2.2.1, fun e he => Nat.le_trans (z.2.2.2 e he) l⟩
/-- p and q are places of both codes -/
def PQX (s0 : CS) (r0 : RS) (p q : Nat) : Prop := p < 1200 ∧ (q : Int) < (r0.i 20).toInt ∧ (r0.i 20).toInt ≤ 3000
theorem PQX.hc (z : PQX s0 r0 p q) (k : HC0 nm h c) : HC1 nm p q h c := ⟨⟨z.1, by have := z.2; omega⟩, k⟩
theorem gs_push {g' : Nat} (pq : PQX s0 r0 p q) (k : HC0 nm h c) (e1 : s0.a 15 p = 0) (e2 : r0.a 21 q = 2) (e3 : s0.a 16 p = r0.a 22 q) (hh : h < 600) (hg : g' = 0 ∨ (g' = 2 ∧ (s0.a 16 p = 0 ∨ s0.a 16 p = 1)) ∨ (g' = 4 ∧ s0.a 16 p = 1)) (z : GU FC s0 r0 nm X (p + 1) (q + 1) (h + 1) w g' c) : GU FC s0 r0 nm X p q h (w + 1) g c := gi_UPush (pq.hc k) pq.2.1 ⟨e1, e2, e3, hh, g', NXW.of z 1, hg⟩
theorem gs_load {k0 l0 : Nat} (pq : PQX s0 r0 p q) (k : HC0 nm h c) (e1 : s0.a 15 p = 1) (e2 : r0.a 21 q = 3) (e3 : (s0.a 16 p).toInt = (k0 : Int)) (e4 : (r0.a 22 q).toInt = (l0 : Int)) (hn : nm k0 l0) (hh : h < 600) (z : GU FC s0 r0 nm X (p + 1) (q + 1) (h + 1) w 0 c) : GU FC s0 r0 nm X p q h (w + 1) g c := gi_ULoad (pq.hc k) pq.2.1 ⟨e1, e2, ⟨k0, l0, e3, e4, hn⟩, hh, NXW.of z 1⟩
theorem gs_cau {e : Ent} (pq : PQX s0 r0 p q) (k : HC0 nm h c) (e1 : s0.a 15 p = 1) (e2 : r0.a 21 q = 4) (he : e ∈ c) (hk : e.k = 2) (e3 : (s0.a 16 p).toInt = (e.z : Int)) (e4 : (r0.a 22 q).toInt = (e.w : Int)) (hh : h < 600) (z : GU FC s0 r0 nm X (p + 1) (q + 1) (h + 1) w 0 c) : GU FC s0 r0 nm X p q h (w + 1) g c := gi_UCau (pq.hc k) pq.2.1 ⟨e1, e2, ⟨e, he, hk, e3, e4⟩, hh, NXW.of z 1⟩
theorem gs_neg (pq : PQX s0 r0 p q) (k : HC0 nm h c) (e1 : s0.a 15 p = 4) (e2 : r0.a 21 q = 7) (z : GU FC s0 r0 nm X (p + 1) (q + 1) (h + 1) w 0 c) : GU FC s0 r0 nm X p q (h + 1) (w + 1) g c := gi_UNeg (pq.hc (k.up (Nat.le_succ _))) pq.2.1 ⟨Or.inl ⟨e1, e2⟩, ⟨h, rfl⟩, 0, NXW.of z 1, Or.inl rfl⟩
theorem gs_not (pq : PQX s0 r0 p q) (k : HC0 nm h c) (e1 : s0.a 15 p = 5) (e2 : r0.a 21 q = 10) (z : GU FC s0 r0 nm X (p + 1) (q + 1) (h + 1) w 2 c) : GU FC s0 r0 nm X p q (h + 1) (w + 1) 2 c := gi_UNeg (pq.hc (k.up (Nat.le_succ _))) pq.2.1 ⟨Or.inr ⟨e1, e2⟩, ⟨h, rfl⟩, 2, NXW.of z 1, Or.inr ⟨rfl, rfl, e1⟩⟩
/-- an instruction of the class and the reference's for the same sign -/
def AOP (a o : Int32) : Prop := (a = 7 ∧ o = 43) ∨ (a = 8 ∧ o = 45) ∨ (a = 9 ∧ o = 42)
def COP (a o : Int32) : Prop := (a = 12 ∧ o = 60) ∨ (a = 13 ∧ o = 300) ∨ (a = 14 ∧ o = 62) ∨ (a = 15 ∧ o = 301) ∨ (a = 16 ∧ o = 302) ∨ (a = 17 ∧ o = 303)
def DOP (a o : Int32) : Prop := (a = 10 ∧ o = 47) ∨ (a = 11 ∧ o = 37)
theorem gs_ari (pq : PQX s0 r0 p q) (k : HC0 nm h c) (e1 : AOP (s0.a 15 p) (r0.a 22 q)) (e2 : r0.a 21 q = 8) (z : GU FC s0 r0 nm X (p + 1) (q + 1) (h + 1) w 0 c) : GU FC s0 r0 nm X p q (h + 1 + 1) (w + 1) g c := by
  refine gi_UAri (pq.hc (k.up (by omega))) pq.2.1 ⟨?_, h, 0, rfl, NXW.of z 1, Or.inl rfl⟩
  rcases e1 with ⟨a, b⟩ | ⟨a, b⟩ | ⟨a, b⟩
  · exact Or.inl ⟨a, e2, b⟩
  · exact Or.inr (Or.inl ⟨a, e2, b⟩)
  · exact Or.inr (Or.inr (Or.inl ⟨a, e2, b⟩))
theorem gs_rel (pq : PQX s0 r0 p q) (k : HC0 nm h c) (e1 : COP (s0.a 15 p) (r0.a 22 q)) (e2 : r0.a 21 q = 9) (z : GU FC s0 r0 nm X (p + 1) (q + 1) (h + 1) w 2 c) : GU FC s0 r0 nm X p q (h + 1 + 1) (w + 1) g c := by
  refine gi_UAri (pq.hc (k.up (by omega))) pq.2.1 ⟨?_, h, 2, rfl, NXW.of z 1, Or.inr ⟨rfl, ?_⟩⟩
  · rcases e1 with ⟨a, b⟩ | ⟨a, b⟩ | ⟨a, b⟩ | ⟨a, b⟩ | ⟨a, b⟩ | ⟨a, b⟩
    · exact Or.inr (Or.inr (Or.inr (Or.inl ⟨a, e2, b⟩)))
    · exact Or.inr (Or.inr (Or.inr (Or.inr (Or.inl ⟨a, e2, b⟩))))
    · exact Or.inr (Or.inr (Or.inr (Or.inr (Or.inr (Or.inl ⟨a, e2, b⟩)))))
    · exact Or.inr (Or.inr (Or.inr (Or.inr (Or.inr (Or.inr (Or.inl ⟨a, e2, b⟩))))))
    · exact Or.inr (Or.inr (Or.inr (Or.inr (Or.inr (Or.inr (Or.inr (Or.inl ⟨a, e2, b⟩)))))))
    · exact Or.inr (Or.inr (Or.inr (Or.inr (Or.inr (Or.inr (Or.inr (Or.inr ⟨a, e2, b⟩)))))))
  · rcases e1 with ⟨a, -⟩ | ⟨a, -⟩ | ⟨a, -⟩ | ⟨a, -⟩ | ⟨a, -⟩ | ⟨a, -⟩ <;> rw [a] <;> decide
theorem gs_div {W : Nat} (pq : PQX s0 r0 p q) (k : HC0 nm h c) (e1 : DOP (s0.a 15 p) (r0.a 22 q)) (e2 : r0.a 21 q = 8) (ty : TYC s0 r0 (GU FC s0 r0 nm X) W c) (hW : W + 1 ≤ w) (z : GU FC s0 r0 nm X (p + 1) (q + 1) (h + 1) w 0 c) : GU FC s0 r0 nm X p q (h + 1 + 1) (w + 1) g c := gi_UDiv (pq.hc (k.up (by omega))) pq.2.1 ⟨h, W, rfl, by omega, k.2.2.2, ty, ⟨e2, e1⟩, NXW.of z 1⟩
/-- && and ||: what is known already jumps over the rest -/
theorem gs_kep {p' q' g' w' : Nat} (pq : PQX s0 r0 p q) (k : HC0 nm h c) (e1 : (s0.a 15 p = 32 ∧ r0.a 21 q = 12) ∨ (s0.a 15 p = 33 ∧ r0.a 21 q = 11)) (ht : (cTg s0 (s0.a 16 p)).toInt = (p' : Int)) (hx : (r0.a 22 q).toInt = (q' : Int)) (l : w' ≤ w) (zj : GU FC s0 r0 nm X p' q' (h + 1) w' 2 c) (z : GU FC s0 r0 nm X (p + 1) (q + 1) h w 0 c) : GU FC s0 r0 nm X p q (h + 1) (w + 1) 2 c := gi_UKep (pq.hc (k.up (Nat.le_succ _))) pq.2.1 ⟨e1, h, 2, rfl, JX.of ht hx zj 1 (by omega), NXW.of z 1, Or.inr (Or.inl ⟨rfl, rfl⟩)⟩
end
