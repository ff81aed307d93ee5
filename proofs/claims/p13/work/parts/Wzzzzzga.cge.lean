section
/-! the units see the states only through their code -/
/-- the same code; kinds may be told -/
def CGE (s S : CS) (r R : RS) : Prop := (S.a 15 = s.a 15 ∧ S.a 16 = s.a 16 ∧ S.a 17 = s.a 17) ∧ (∀ k : Nat, 21 ≤ k → k ≤ 37 → R.a k = r.a k) ∧ (r.i 3).toInt ≤ (R.i 3).toInt ∧ R.i 18 = r.i 18 ∧ R.i 20 = r.i 20
section
variable {s S : CS} {r R : RS}
theorem cg_UEnd (h : CGE s S r R) (p : Nat) (q : Nat) (w : Nat) : UEnd S p q w R = UEnd s p q w r := by
  simp only [UEnd, h.1.1, h.1.2.1, h.1.2.2, h.2.1 21 (by decide) (by decide), h.2.1 22 (by decide) (by decide), h.2.1 23 (by decide) (by decide), h.2.1 24 (by decide) (by decide), h.2.1 25 (by decide) (by decide), h.2.1 26 (by decide) (by decide), h.2.1 27 (by decide) (by decide), h.2.1 28 (by decide) (by decide), h.2.1 29 (by decide) (by decide), h.2.1 30 (by decide) (by decide), h.2.1 31 (by decide) (by decide), h.2.1 32 (by decide) (by decide), h.2.1 33 (by decide) (by decide), h.2.1 34 (by decide) (by decide), h.2.1 35 (by decide) (by decide), h.2.1 36 (by decide) (by decide), h.2.1 37 (by decide) (by decide), h.2.2.2.1, h.2.2.2.2]
theorem cg_cTg (h : CGE s S r R) (x : Int32) : cTg S x = cTg s x := by
  simp only [cTg, h.1.1, h.1.2.1, h.1.2.2, h.2.1 21 (by decide) (by decide), h.2.1 22 (by decide) (by decide), h.2.1 23 (by decide) (by decide), h.2.1 24 (by decide) (by decide), h.2.1 25 (by decide) (by decide), h.2.1 26 (by decide) (by decide), h.2.1 27 (by decide) (by decide), h.2.1 28 (by decide) (by decide), h.2.1 29 (by decide) (by decide), h.2.1 30 (by decide) (by decide), h.2.1 31 (by decide) (by decide), h.2.1 32 (by decide) (by decide), h.2.1 33 (by decide) (by decide), h.2.1 34 (by decide) (by decide), h.2.1 35 (by decide) (by decide), h.2.1 36 (by decide) (by decide), h.2.1 37 (by decide) (by decide), h.2.2.2.1, h.2.2.2.2]
theorem cg_UCgo (h : CGE s S r R) (AL : Als) (p : Nat) (q : Nat) (h' : Nat) (w : Nat) (c : List Ent) : UCgo S AL p q h' w c = UCgo s AL p q h' w c := by
  simp only [UCgo, cg_cTg h, h.1.1, h.1.2.1, h.1.2.2, h.2.1 21 (by decide) (by decide), h.2.1 22 (by decide) (by decide), h.2.1 23 (by decide) (by decide), h.2.1 24 (by decide) (by decide), h.2.1 25 (by decide) (by decide), h.2.1 26 (by decide) (by decide), h.2.1 27 (by decide) (by decide), h.2.1 28 (by decide) (by decide), h.2.1 29 (by decide) (by decide), h.2.1 30 (by decide) (by decide), h.2.1 31 (by decide) (by decide), h.2.1 32 (by decide) (by decide), h.2.1 33 (by decide) (by decide), h.2.1 34 (by decide) (by decide), h.2.1 35 (by decide) (by decide), h.2.1 36 (by decide) (by decide), h.2.1 37 (by decide) (by decide), h.2.2.2.1, h.2.2.2.2]
theorem cg_UPush (h : CGE s S r R) (AL : Als) (p : Nat) (q : Nat) (h' : Nat) (w : Nat) (c : List Ent) : UPush S R AL p q h' w c = UPush s r AL p q h' w c := by
  simp only [UPush, h.1.1, h.1.2.1, h.1.2.2, h.2.1 21 (by decide) (by decide), h.2.1 22 (by decide) (by decide), h.2.1 23 (by decide) (by decide), h.2.1 24 (by decide) (by decide), h.2.1 25 (by decide) (by decide), h.2.1 26 (by decide) (by decide), h.2.1 27 (by decide) (by decide), h.2.1 28 (by decide) (by decide), h.2.1 29 (by decide) (by decide), h.2.1 30 (by decide) (by decide), h.2.1 31 (by decide) (by decide), h.2.1 32 (by decide) (by decide), h.2.1 33 (by decide) (by decide), h.2.1 34 (by decide) (by decide), h.2.1 35 (by decide) (by decide), h.2.1 36 (by decide) (by decide), h.2.1 37 (by decide) (by decide), h.2.2.2.1, h.2.2.2.2]
theorem cg_ULoad (h : CGE s S r R) (nm : Nat → Nat → Prop) (AL : Als) (p : Nat) (q : Nat) (h' : Nat) (w : Nat) (c : List Ent) : ULoad S R nm AL p q h' w c = ULoad s r nm AL p q h' w c := by
  simp only [ULoad, h.1.1, h.1.2.1, h.1.2.2, h.2.1 21 (by decide) (by decide), h.2.1 22 (by decide) (by decide), h.2.1 23 (by decide) (by decide), h.2.1 24 (by decide) (by decide), h.2.1 25 (by decide) (by decide), h.2.1 26 (by decide) (by decide), h.2.1 27 (by decide) (by decide), h.2.1 28 (by decide) (by decide), h.2.1 29 (by decide) (by decide), h.2.1 30 (by decide) (by decide), h.2.1 31 (by decide) (by decide), h.2.1 32 (by decide) (by decide), h.2.1 33 (by decide) (by decide), h.2.1 34 (by decide) (by decide), h.2.1 35 (by decide) (by decide), h.2.1 36 (by decide) (by decide), h.2.1 37 (by decide) (by decide), h.2.2.2.1, h.2.2.2.2]
theorem cg_UStor (h : CGE s S r R) (nm : Nat → Nat → Prop) (AL : Als) (p : Nat) (q : Nat) (h' : Nat) (w : Nat) (c : List Ent) : UStor S R nm AL p q h' w c = UStor s r nm AL p q h' w c := by
  simp only [UStor, h.1.1, h.1.2.1, h.1.2.2, h.2.1 21 (by decide) (by decide), h.2.1 22 (by decide) (by decide), h.2.1 23 (by decide) (by decide), h.2.1 24 (by decide) (by decide), h.2.1 25 (by decide) (by decide), h.2.1 26 (by decide) (by decide), h.2.1 27 (by decide) (by decide), h.2.1 28 (by decide) (by decide), h.2.1 29 (by decide) (by decide), h.2.1 30 (by decide) (by decide), h.2.1 31 (by decide) (by decide), h.2.1 32 (by decide) (by decide), h.2.1 33 (by decide) (by decide), h.2.1 34 (by decide) (by decide), h.2.1 35 (by decide) (by decide), h.2.1 36 (by decide) (by decide), h.2.1 37 (by decide) (by decide), h.2.2.2.1, h.2.2.2.2]
theorem cg_UNeg (h : CGE s S r R) (AL : Als) (p : Nat) (q : Nat) (h' : Nat) (w : Nat) (g : Nat) (c : List Ent) : UNeg S R AL p q h' w g c = UNeg s r AL p q h' w g c := by
  simp only [UNeg, h.1.1, h.1.2.1, h.1.2.2, h.2.1 21 (by decide) (by decide), h.2.1 22 (by decide) (by decide), h.2.1 23 (by decide) (by decide), h.2.1 24 (by decide) (by decide), h.2.1 25 (by decide) (by decide), h.2.1 26 (by decide) (by decide), h.2.1 27 (by decide) (by decide), h.2.1 28 (by decide) (by decide), h.2.1 29 (by decide) (by decide), h.2.1 30 (by decide) (by decide), h.2.1 31 (by decide) (by decide), h.2.1 32 (by decide) (by decide), h.2.1 33 (by decide) (by decide), h.2.1 34 (by decide) (by decide), h.2.1 35 (by decide) (by decide), h.2.1 36 (by decide) (by decide), h.2.1 37 (by decide) (by decide), h.2.2.2.1, h.2.2.2.2]
theorem cg_UAri (h : CGE s S r R) (AL : Als) (p : Nat) (q : Nat) (h' : Nat) (w : Nat) (c : List Ent) : UAri S R AL p q h' w c = UAri s r AL p q h' w c := by
  simp only [UAri, h.1.1, h.1.2.1, h.1.2.2, h.2.1 21 (by decide) (by decide), h.2.1 22 (by decide) (by decide), h.2.1 23 (by decide) (by decide), h.2.1 24 (by decide) (by decide), h.2.1 25 (by decide) (by decide), h.2.1 26 (by decide) (by decide), h.2.1 27 (by decide) (by decide), h.2.1 28 (by decide) (by decide), h.2.1 29 (by decide) (by decide), h.2.1 30 (by decide) (by decide), h.2.1 31 (by decide) (by decide), h.2.1 32 (by decide) (by decide), h.2.1 33 (by decide) (by decide), h.2.1 34 (by decide) (by decide), h.2.1 35 (by decide) (by decide), h.2.1 36 (by decide) (by decide), h.2.1 37 (by decide) (by decide), h.2.2.2.1, h.2.2.2.2]
theorem cg_UCau (h : CGE s S r R) (AL : Als) (p : Nat) (q : Nat) (h' : Nat) (w : Nat) (c : List Ent) : UCau S R AL p q h' w c = UCau s r AL p q h' w c := by
  simp only [UCau, h.1.1, h.1.2.1, h.1.2.2, h.2.1 21 (by decide) (by decide), h.2.1 22 (by decide) (by decide), h.2.1 23 (by decide) (by decide), h.2.1 24 (by decide) (by decide), h.2.1 25 (by decide) (by decide), h.2.1 26 (by decide) (by decide), h.2.1 27 (by decide) (by decide), h.2.1 28 (by decide) (by decide), h.2.1 29 (by decide) (by decide), h.2.1 30 (by decide) (by decide), h.2.1 31 (by decide) (by decide), h.2.1 32 (by decide) (by decide), h.2.1 33 (by decide) (by decide), h.2.1 34 (by decide) (by decide), h.2.1 35 (by decide) (by decide), h.2.1 36 (by decide) (by decide), h.2.1 37 (by decide) (by decide), h.2.2.2.1, h.2.2.2.2]
theorem cg_JX (h : CGE s S r R) (AL : Als) (t : Int32) (x : Int32) (h' : Nat) (w : Nat) (n : Nat) (g : Nat) (c : List Ent) : JX S AL t x h' w n g c = JX s AL t x h' w n g c := by
  simp only [JX, cg_cTg h, h.1.1, h.1.2.1, h.1.2.2, h.2.1 21 (by decide) (by decide), h.2.1 22 (by decide) (by decide), h.2.1 23 (by decide) (by decide), h.2.1 24 (by decide) (by decide), h.2.1 25 (by decide) (by decide), h.2.1 26 (by decide) (by decide), h.2.1 27 (by decide) (by decide), h.2.1 28 (by decide) (by decide), h.2.1 29 (by decide) (by decide), h.2.1 30 (by decide) (by decide), h.2.1 31 (by decide) (by decide), h.2.1 32 (by decide) (by decide), h.2.1 33 (by decide) (by decide), h.2.1 34 (by decide) (by decide), h.2.1 35 (by decide) (by decide), h.2.1 36 (by decide) (by decide), h.2.1 37 (by decide) (by decide), h.2.2.2.1, h.2.2.2.2]
theorem cg_UKep (h : CGE s S r R) (AL : Als) (p : Nat) (q : Nat) (h' : Nat) (w : Nat) (g : Nat) (c : List Ent) : UKep S R AL p q h' w g c = UKep s r AL p q h' w g c := by
  simp only [UKep, cg_JX h, h.1.1, h.1.2.1, h.1.2.2, h.2.1 21 (by decide) (by decide), h.2.1 22 (by decide) (by decide), h.2.1 23 (by decide) (by decide), h.2.1 24 (by decide) (by decide), h.2.1 25 (by decide) (by decide), h.2.1 26 (by decide) (by decide), h.2.1 27 (by decide) (by decide), h.2.1 28 (by decide) (by decide), h.2.1 29 (by decide) (by decide), h.2.1 30 (by decide) (by decide), h.2.1 31 (by decide) (by decide), h.2.1 32 (by decide) (by decide), h.2.1 33 (by decide) (by decide), h.2.1 34 (by decide) (by decide), h.2.1 35 (by decide) (by decide), h.2.1 36 (by decide) (by decide), h.2.1 37 (by decide) (by decide), h.2.2.2.1, h.2.2.2.2]
theorem cg_UJmp (h : CGE s S r R) (AL : Als) (p : Nat) (q : Nat) (h' : Nat) (w : Nat) (c : List Ent) : UJmp S R AL p q h' w c = UJmp s r AL p q h' w c := by
  simp only [UJmp, cg_JX h, h.1.1, h.1.2.1, h.1.2.2, h.2.1 21 (by decide) (by decide), h.2.1 22 (by decide) (by decide), h.2.1 23 (by decide) (by decide), h.2.1 24 (by decide) (by decide), h.2.1 25 (by decide) (by decide), h.2.1 26 (by decide) (by decide), h.2.1 27 (by decide) (by decide), h.2.1 28 (by decide) (by decide), h.2.1 29 (by decide) (by decide), h.2.1 30 (by decide) (by decide), h.2.1 31 (by decide) (by decide), h.2.1 32 (by decide) (by decide), h.2.1 33 (by decide) (by decide), h.2.1 34 (by decide) (by decide), h.2.1 35 (by decide) (by decide), h.2.1 36 (by decide) (by decide), h.2.1 37 (by decide) (by decide), h.2.2.2.1, h.2.2.2.2]
theorem cg_UJz (h : CGE s S r R) (AL : Als) (p : Nat) (q : Nat) (h' : Nat) (w : Nat) (g : Nat) (c : List Ent) : UJz S R AL p q h' w g c = UJz s r AL p q h' w g c := by
  simp only [UJz, cg_JX h, h.1.1, h.1.2.1, h.1.2.2, h.2.1 21 (by decide) (by decide), h.2.1 22 (by decide) (by decide), h.2.1 23 (by decide) (by decide), h.2.1 24 (by decide) (by decide), h.2.1 25 (by decide) (by decide), h.2.1 26 (by decide) (by decide), h.2.1 27 (by decide) (by decide), h.2.1 28 (by decide) (by decide), h.2.1 29 (by decide) (by decide), h.2.1 30 (by decide) (by decide), h.2.1 31 (by decide) (by decide), h.2.1 32 (by decide) (by decide), h.2.1 33 (by decide) (by decide), h.2.1 34 (by decide) (by decide), h.2.1 35 (by decide) (by decide), h.2.1 36 (by decide) (by decide), h.2.1 37 (by decide) (by decide), h.2.2.2.1, h.2.2.2.2]
theorem cg_UOut (h : CGE s S r R) (AL : Als) (p : Nat) (q : Nat) (h' : Nat) (w : Nat) (c : List Ent) : UOut S R AL p q h' w c = UOut s r AL p q h' w c := by
  simp only [UOut, h.1.1, h.1.2.1, h.1.2.2, h.2.1 21 (by decide) (by decide), h.2.1 22 (by decide) (by decide), h.2.1 23 (by decide) (by decide), h.2.1 24 (by decide) (by decide), h.2.1 25 (by decide) (by decide), h.2.1 26 (by decide) (by decide), h.2.1 27 (by decide) (by decide), h.2.1 28 (by decide) (by decide), h.2.1 29 (by decide) (by decide), h.2.1 30 (by decide) (by decide), h.2.1 31 (by decide) (by decide), h.2.1 32 (by decide) (by decide), h.2.1 33 (by decide) (by decide), h.2.1 34 (by decide) (by decide), h.2.1 35 (by decide) (by decide), h.2.1 36 (by decide) (by decide), h.2.1 37 (by decide) (by decide), h.2.2.2.1, h.2.2.2.2]
theorem cg_UJnf (h : CGE s S r R) (AL : Als) (p : Nat) (q : Nat) (h' : Nat) (w : Nat) (g : Nat) (c : List Ent) : UJnf S R AL p q h' w g c = UJnf s r AL p q h' w g c := by
  simp only [UJnf, cg_JX h, h.1.1, h.1.2.1, h.1.2.2, h.2.1 21 (by decide) (by decide), h.2.1 22 (by decide) (by decide), h.2.1 23 (by decide) (by decide), h.2.1 24 (by decide) (by decide), h.2.1 25 (by decide) (by decide), h.2.1 26 (by decide) (by decide), h.2.1 27 (by decide) (by decide), h.2.1 28 (by decide) (by decide), h.2.1 29 (by decide) (by decide), h.2.1 30 (by decide) (by decide), h.2.1 31 (by decide) (by decide), h.2.1 32 (by decide) (by decide), h.2.1 33 (by decide) (by decide), h.2.1 34 (by decide) (by decide), h.2.1 35 (by decide) (by decide), h.2.1 36 (by decide) (by decide), h.2.1 37 (by decide) (by decide), h.2.2.2.1, h.2.2.2.2]
theorem cg_UJnb (h : CGE s S r R) (AL : Als) (p : Nat) (q : Nat) (h' : Nat) (w : Nat) (g : Nat) (c : List Ent) : UJnb S R AL p q h' w g c = UJnb s r AL p q h' w g c := by
  simp only [UJnb, cg_cTg h, cg_JX h, h.1.1, h.1.2.1, h.1.2.2, h.2.1 21 (by decide) (by decide), h.2.1 22 (by decide) (by decide), h.2.1 23 (by decide) (by decide), h.2.1 24 (by decide) (by decide), h.2.1 25 (by decide) (by decide), h.2.1 26 (by decide) (by decide), h.2.1 27 (by decide) (by decide), h.2.1 28 (by decide) (by decide), h.2.1 29 (by decide) (by decide), h.2.1 30 (by decide) (by decide), h.2.1 31 (by decide) (by decide), h.2.1 32 (by decide) (by decide), h.2.1 33 (by decide) (by decide), h.2.1 34 (by decide) (by decide), h.2.1 35 (by decide) (by decide), h.2.1 36 (by decide) (by decide), h.2.1 37 (by decide) (by decide), h.2.2.2.1, h.2.2.2.2]
theorem cg_UAsr (h : CGE s S r R) (AL : Als) (p : Nat) (q : Nat) (h' : Nat) (w : Nat) (c : List Ent) : UAsr S R AL p q h' w c = UAsr s r AL p q h' w c := by
  simp only [UAsr, cg_JX h, h.1.1, h.1.2.1, h.1.2.2, h.2.1 21 (by decide) (by decide), h.2.1 22 (by decide) (by decide), h.2.1 23 (by decide) (by decide), h.2.1 24 (by decide) (by decide), h.2.1 25 (by decide) (by decide), h.2.1 26 (by decide) (by decide), h.2.1 27 (by decide) (by decide), h.2.1 28 (by decide) (by decide), h.2.1 29 (by decide) (by decide), h.2.1 30 (by decide) (by decide), h.2.1 31 (by decide) (by decide), h.2.1 32 (by decide) (by decide), h.2.1 33 (by decide) (by decide), h.2.1 34 (by decide) (by decide), h.2.1 35 (by decide) (by decide), h.2.1 36 (by decide) (by decide), h.2.1 37 (by decide) (by decide), h.2.2.2.1, h.2.2.2.2]
theorem cg_LTGD (h : CGE s S r R) (AL : Als) : LTGD R AL = LTGD r AL := by
  simp only [LTGD, h.1.1, h.1.2.1, h.1.2.2, h.2.1 21 (by decide) (by decide), h.2.1 22 (by decide) (by decide), h.2.1 23 (by decide) (by decide), h.2.1 24 (by decide) (by decide), h.2.1 25 (by decide) (by decide), h.2.1 26 (by decide) (by decide), h.2.1 27 (by decide) (by decide), h.2.1 28 (by decide) (by decide), h.2.1 29 (by decide) (by decide), h.2.1 30 (by decide) (by decide), h.2.1 31 (by decide) (by decide), h.2.1 32 (by decide) (by decide), h.2.1 33 (by decide) (by decide), h.2.1 34 (by decide) (by decide), h.2.1 35 (by decide) (by decide), h.2.1 36 (by decide) (by decide), h.2.1 37 (by decide) (by decide), h.2.2.2.1, h.2.2.2.2]
theorem cg_HRW (h : CGE s S r R) (AL : Als) (e : Ent) (c : List Ent) (W : Nat) : ∀ (n p : Nat) (x : Int32), HRW S R AL e c W n p x = HRW s r AL e c W n p x
  | 0, p, x => by simp only [HRW, cg_cTg h, h.1.1, h.1.2.1, h.1.2.2, h.2.1 21 (by decide) (by decide), h.2.1 22 (by decide) (by decide), h.2.1 23 (by decide) (by decide), h.2.1 24 (by decide) (by decide), h.2.1 25 (by decide) (by decide), h.2.1 26 (by decide) (by decide), h.2.1 27 (by decide) (by decide), h.2.1 28 (by decide) (by decide), h.2.1 29 (by decide) (by decide), h.2.1 30 (by decide) (by decide), h.2.1 31 (by decide) (by decide), h.2.1 32 (by decide) (by decide), h.2.1 33 (by decide) (by decide), h.2.1 34 (by decide) (by decide), h.2.1 35 (by decide) (by decide), h.2.1 36 (by decide) (by decide), h.2.1 37 (by decide) (by decide), h.2.2.2.1, h.2.2.2.2]
  | n + 1, p, x => by simp only [HRW, cg_HRW h AL e c W n, cg_cTg h, h.1.1, h.1.2.1, h.1.2.2, h.2.1 21 (by decide) (by decide), h.2.1 22 (by decide) (by decide), h.2.1 23 (by decide) (by decide), h.2.1 24 (by decide) (by decide), h.2.1 25 (by decide) (by decide), h.2.1 26 (by decide) (by decide), h.2.1 27 (by decide) (by decide), h.2.1 28 (by decide) (by decide), h.2.1 29 (by decide) (by decide), h.2.1 30 (by decide) (by decide), h.2.1 31 (by decide) (by decide), h.2.1 32 (by decide) (by decide), h.2.1 33 (by decide) (by decide), h.2.1 34 (by decide) (by decide), h.2.1 35 (by decide) (by decide), h.2.1 36 (by decide) (by decide), h.2.1 37 (by decide) (by decide), h.2.2.2.1, h.2.2.2.2]
theorem cg_HBD (h : CGE s S r R) (AL : Als) (e : Ent) (c : List Ent) (W : Nat) : HBD S R AL e c W = HBD s r AL e c W := by
  simp only [HBD, cg_cTg h, cg_HRW h, h.1.1, h.1.2.1, h.1.2.2, h.2.1 21 (by decide) (by decide), h.2.1 22 (by decide) (by decide), h.2.1 23 (by decide) (by decide), h.2.1 24 (by decide) (by decide), h.2.1 25 (by decide) (by decide), h.2.1 26 (by decide) (by decide), h.2.1 27 (by decide) (by decide), h.2.1 28 (by decide) (by decide), h.2.1 29 (by decide) (by decide), h.2.1 30 (by decide) (by decide), h.2.1 31 (by decide) (by decide), h.2.1 32 (by decide) (by decide), h.2.1 33 (by decide) (by decide), h.2.1 34 (by decide) (by decide), h.2.1 35 (by decide) (by decide), h.2.1 36 (by decide) (by decide), h.2.1 37 (by decide) (by decide), h.2.2.2.1, h.2.2.2.2]
theorem cg_HFN (h : CGE s S r R) (AL : Als) (e : Ent) (c : List Ent) (W : Nat) : HFN S R AL e c W = HFN s r AL e c W := by
  simp only [HFN, cg_cTg h, h.1.1, h.1.2.1, h.1.2.2, h.2.1 21 (by decide) (by decide), h.2.1 22 (by decide) (by decide), h.2.1 23 (by decide) (by decide), h.2.1 24 (by decide) (by decide), h.2.1 25 (by decide) (by decide), h.2.1 26 (by decide) (by decide), h.2.1 27 (by decide) (by decide), h.2.1 28 (by decide) (by decide), h.2.1 29 (by decide) (by decide), h.2.1 30 (by decide) (by decide), h.2.1 31 (by decide) (by decide), h.2.1 32 (by decide) (by decide), h.2.1 33 (by decide) (by decide), h.2.1 34 (by decide) (by decide), h.2.1 35 (by decide) (by decide), h.2.1 36 (by decide) (by decide), h.2.1 37 (by decide) (by decide), h.2.2.2.1, h.2.2.2.2]
theorem cg_TYC (h : CGE s S r R) (AL : Als) (W : Nat) : ∀ c : List Ent, TYC S R AL W c = TYC s r AL W c
  | [] => by simp only [TYC, cg_LTGD h, cg_HBD h, cg_HFN h, h.1.1, h.1.2.1, h.1.2.2, h.2.1 21 (by decide) (by decide), h.2.1 22 (by decide) (by decide), h.2.1 23 (by decide) (by decide), h.2.1 24 (by decide) (by decide), h.2.1 25 (by decide) (by decide), h.2.1 26 (by decide) (by decide), h.2.1 27 (by decide) (by decide), h.2.1 28 (by decide) (by decide), h.2.1 29 (by decide) (by decide), h.2.1 30 (by decide) (by decide), h.2.1 31 (by decide) (by decide), h.2.1 32 (by decide) (by decide), h.2.1 33 (by decide) (by decide), h.2.1 34 (by decide) (by decide), h.2.1 35 (by decide) (by decide), h.2.1 36 (by decide) (by decide), h.2.1 37 (by decide) (by decide), h.2.2.2.1, h.2.2.2.2]
  | e :: c => by simp only [TYC, cg_TYC h AL W c, cg_LTGD h, cg_HBD h, cg_HFN h, h.1.1, h.1.2.1, h.1.2.2, h.2.1 21 (by decide) (by decide), h.2.1 22 (by decide) (by decide), h.2.1 23 (by decide) (by decide), h.2.1 24 (by decide) (by decide), h.2.1 25 (by decide) (by decide), h.2.1 26 (by decide) (by decide), h.2.1 27 (by decide) (by decide), h.2.1 28 (by decide) (by decide), h.2.1 29 (by decide) (by decide), h.2.1 30 (by decide) (by decide), h.2.1 31 (by decide) (by decide), h.2.1 32 (by decide) (by decide), h.2.1 33 (by decide) (by decide), h.2.1 34 (by decide) (by decide), h.2.1 35 (by decide) (by decide), h.2.1 36 (by decide) (by decide), h.2.1 37 (by decide) (by decide), h.2.2.2.1, h.2.2.2.2]
theorem cg_FCP (h : CGE s S r R) (AL : Als) (y : Nat) : FCP R AL y = FCP r AL y := by
  simp only [FCP, h.1.1, h.1.2.1, h.1.2.2, h.2.1 21 (by decide) (by decide), h.2.1 22 (by decide) (by decide), h.2.1 23 (by decide) (by decide), h.2.1 24 (by decide) (by decide), h.2.1 25 (by decide) (by decide), h.2.1 26 (by decide) (by decide), h.2.1 27 (by decide) (by decide), h.2.1 28 (by decide) (by decide), h.2.1 29 (by decide) (by decide), h.2.1 30 (by decide) (by decide), h.2.1 31 (by decide) (by decide), h.2.1 32 (by decide) (by decide), h.2.1 33 (by decide) (by decide), h.2.1 34 (by decide) (by decide), h.2.1 35 (by decide) (by decide), h.2.1 36 (by decide) (by decide), h.2.1 37 (by decide) (by decide), h.2.2.2.1, h.2.2.2.2]
theorem cg_FCA (h : CGE s S r R) (AL : Als) (c : List Ent) : FCA R AL c = FCA r AL c := by
  simp only [FCA, cg_FCP h, h.1.1, h.1.2.1, h.1.2.2, h.2.1 21 (by decide) (by decide), h.2.1 22 (by decide) (by decide), h.2.1 23 (by decide) (by decide), h.2.1 24 (by decide) (by decide), h.2.1 25 (by decide) (by decide), h.2.1 26 (by decide) (by decide), h.2.1 27 (by decide) (by decide), h.2.1 28 (by decide) (by decide), h.2.1 29 (by decide) (by decide), h.2.1 30 (by decide) (by decide), h.2.1 31 (by decide) (by decide), h.2.1 32 (by decide) (by decide), h.2.1 33 (by decide) (by decide), h.2.1 34 (by decide) (by decide), h.2.1 35 (by decide) (by decide), h.2.1 36 (by decide) (by decide), h.2.1 37 (by decide) (by decide), h.2.2.2.1, h.2.2.2.2]
theorem cg_GL2 (h : CGE s S r R) (AL : Als) (c : List Ent) (h' : Nat) (T : Int32) (d : Int32) (u : Nat) : GL2 S R AL c h' T d u = GL2 s r AL c h' T d u := by
  simp only [GL2, cg_cTg h, cg_FCA h, h.1.1, h.1.2.1, h.1.2.2, h.2.1 21 (by decide) (by decide), h.2.1 22 (by decide) (by decide), h.2.1 23 (by decide) (by decide), h.2.1 24 (by decide) (by decide), h.2.1 25 (by decide) (by decide), h.2.1 26 (by decide) (by decide), h.2.1 27 (by decide) (by decide), h.2.1 28 (by decide) (by decide), h.2.1 29 (by decide) (by decide), h.2.1 30 (by decide) (by decide), h.2.1 31 (by decide) (by decide), h.2.1 32 (by decide) (by decide), h.2.1 33 (by decide) (by decide), h.2.1 34 (by decide) (by decide), h.2.1 35 (by decide) (by decide), h.2.1 36 (by decide) (by decide), h.2.1 37 (by decide) (by decide), h.2.2.2.1, h.2.2.2.2]
theorem cg_URet (h : CGE s S r R) (AL : Als) (p : Nat) (q : Nat) (h' : Nat) (w : Nat) (c : List Ent) : URet S R AL p q h' w c = URet s r AL p q h' w c := by
  simp only [URet, cg_TYC h, cg_GL2 h, h.1.1, h.1.2.1, h.1.2.2, h.2.1 21 (by decide) (by decide), h.2.1 22 (by decide) (by decide), h.2.1 23 (by decide) (by decide), h.2.1 24 (by decide) (by decide), h.2.1 25 (by decide) (by decide), h.2.1 26 (by decide) (by decide), h.2.1 27 (by decide) (by decide), h.2.1 28 (by decide) (by decide), h.2.1 29 (by decide) (by decide), h.2.1 30 (by decide) (by decide), h.2.1 31 (by decide) (by decide), h.2.1 32 (by decide) (by decide), h.2.1 33 (by decide) (by decide), h.2.1 34 (by decide) (by decide), h.2.1 35 (by decide) (by decide), h.2.1 36 (by decide) (by decide), h.2.1 37 (by decide) (by decide), h.2.2.2.1, h.2.2.2.2]
theorem cg_GL1 (h : CGE s S r R) (AL : Als) (c : List Ent) (h' : Nat) (T : Int32) (x : Int32) (d : Int32) (u : Nat) : GL1 S R AL c h' T x d u = GL1 s r AL c h' T x d u := by
  simp only [GL1, cg_cTg h, cg_FCA h, h.1.1, h.1.2.1, h.1.2.2, h.2.1 21 (by decide) (by decide), h.2.1 22 (by decide) (by decide), h.2.1 23 (by decide) (by decide), h.2.1 24 (by decide) (by decide), h.2.1 25 (by decide) (by decide), h.2.1 26 (by decide) (by decide), h.2.1 27 (by decide) (by decide), h.2.1 28 (by decide) (by decide), h.2.1 29 (by decide) (by decide), h.2.1 30 (by decide) (by decide), h.2.1 31 (by decide) (by decide), h.2.1 32 (by decide) (by decide), h.2.1 33 (by decide) (by decide), h.2.1 34 (by decide) (by decide), h.2.1 35 (by decide) (by decide), h.2.1 36 (by decide) (by decide), h.2.1 37 (by decide) (by decide), h.2.2.2.1, h.2.2.2.2]
theorem cg_UGo (h : CGE s S r R) (AL : Als) (p : Nat) (q : Nat) (h' : Nat) (w : Nat) (c : List Ent) : UGo S R AL p q h' w c = UGo s r AL p q h' w c := by
  simp only [UGo, cg_TYC h, cg_GL1 h, h.1.1, h.1.2.1, h.1.2.2, h.2.1 21 (by decide) (by decide), h.2.1 22 (by decide) (by decide), h.2.1 23 (by decide) (by decide), h.2.1 24 (by decide) (by decide), h.2.1 25 (by decide) (by decide), h.2.1 26 (by decide) (by decide), h.2.1 27 (by decide) (by decide), h.2.1 28 (by decide) (by decide), h.2.1 29 (by decide) (by decide), h.2.1 30 (by decide) (by decide), h.2.1 31 (by decide) (by decide), h.2.1 32 (by decide) (by decide), h.2.1 33 (by decide) (by decide), h.2.1 34 (by decide) (by decide), h.2.1 35 (by decide) (by decide), h.2.1 36 (by decide) (by decide), h.2.1 37 (by decide) (by decide), h.2.2.2.1, h.2.2.2.2]
theorem cg_URai (h : CGE s S r R) {AL : Als} {p q h' w : Nat} {c : List Ent} (z : URai s r AL p q h' w c) : URai S R AL p q h' w c := by
  obtain ⟨h1, u, z1, z2, z3, z4, z5, z6, z7, z8, z9⟩ := z
  refine ⟨h1, u, z1, z2, z3, by rw [cg_TYC h]; exact z4, by rw [h.1.1]; exact z5, by rw [h.2.1 21 (by decide) (by decide)]; exact z6, by rw [h.1.2.1, h.2.1 22 (by decide) (by decide)]; exact z7, by rw [h.1.2.1]; exact z8, ?_⟩
  rw [h.1.2.1]
  have := h.2.2.1
  omega
theorem cg_URa0 (h : CGE s S r R) {AL : Als} {p q h' w : Nat} {c : List Ent} (z : URa0 s r AL p q h' w c) : URa0 S R AL p q h' w c := by
  obtain ⟨u, z1, z2, z3, z4, z5, z6, z7, z8, z9, z10, z11⟩ := z
  refine ⟨u, z1, z2, by rw [cg_TYC h]; exact z3, by rw [h.1.1]; exact z4, by rw [h.1.2.1]; exact z5, by rw [h.1.1]; exact z6, z7, by rw [h.2.1 21 (by decide) (by decide)]; exact z8, by rw [h.1.2.1, h.2.1 22 (by decide) (by decide)]; exact z9, by rw [h.1.2.1]; exact z10, ?_⟩
  rw [h.1.2.1]
  have := h.2.2.1
  omega
theorem cg_UDiv (h : CGE s S r R) (AL : Als) (p : Nat) (q : Nat) (h' : Nat) (w : Nat) (c : List Ent) : UDiv S R AL p q h' w c = UDiv s r AL p q h' w c := by
  simp only [UDiv, cg_TYC h, h.1.1, h.1.2.1, h.1.2.2, h.2.1 21 (by decide) (by decide), h.2.1 22 (by decide) (by decide), h.2.1 23 (by decide) (by decide), h.2.1 24 (by decide) (by decide), h.2.1 25 (by decide) (by decide), h.2.1 26 (by decide) (by decide), h.2.1 27 (by decide) (by decide), h.2.1 28 (by decide) (by decide), h.2.1 29 (by decide) (by decide), h.2.1 30 (by decide) (by decide), h.2.1 31 (by decide) (by decide), h.2.1 32 (by decide) (by decide), h.2.1 33 (by decide) (by decide), h.2.1 34 (by decide) (by decide), h.2.1 35 (by decide) (by decide), h.2.1 36 (by decide) (by decide), h.2.1 37 (by decide) (by decide), h.2.2.2.1, h.2.2.2.2]
theorem cg_UStp (h : CGE s S r R) (AL : Als) (p : Nat) (q : Nat) (h' : Nat) (w : Nat) (c : List Ent) : UStp S R AL p q h' w c = UStp s r AL p q h' w c := by
  simp only [UStp, h.1.1, h.1.2.1, h.1.2.2, h.2.1 21 (by decide) (by decide), h.2.1 22 (by decide) (by decide), h.2.1 23 (by decide) (by decide), h.2.1 24 (by decide) (by decide), h.2.1 25 (by decide) (by decide), h.2.1 26 (by decide) (by decide), h.2.1 27 (by decide) (by decide), h.2.1 28 (by decide) (by decide), h.2.1 29 (by decide) (by decide), h.2.1 30 (by decide) (by decide), h.2.1 31 (by decide) (by decide), h.2.1 32 (by decide) (by decide), h.2.1 33 (by decide) (by decide), h.2.1 34 (by decide) (by decide), h.2.1 35 (by decide) (by decide), h.2.1 36 (by decide) (by decide), h.2.1 37 (by decide) (by decide), h.2.2.2.1, h.2.2.2.2]
theorem cg_UFor (h : CGE s S r R) (AL : Als) (p : Nat) (q : Nat) (h' : Nat) (w : Nat) (c : List Ent) : UFor S R AL p q h' w c = UFor s r AL p q h' w c := by
  simp only [UFor, cg_JX h, h.1.1, h.1.2.1, h.1.2.2, h.2.1 21 (by decide) (by decide), h.2.1 22 (by decide) (by decide), h.2.1 23 (by decide) (by decide), h.2.1 24 (by decide) (by decide), h.2.1 25 (by decide) (by decide), h.2.1 26 (by decide) (by decide), h.2.1 27 (by decide) (by decide), h.2.1 28 (by decide) (by decide), h.2.1 29 (by decide) (by decide), h.2.1 30 (by decide) (by decide), h.2.1 31 (by decide) (by decide), h.2.1 32 (by decide) (by decide), h.2.1 33 (by decide) (by decide), h.2.1 34 (by decide) (by decide), h.2.1 35 (by decide) (by decide), h.2.1 36 (by decide) (by decide), h.2.1 37 (by decide) (by decide), h.2.2.2.1, h.2.2.2.2]
theorem cg_UAga (h : CGE s S r R) (AL : Als) (p : Nat) (q : Nat) (h' : Nat) (w : Nat) (c : List Ent) : UAga S R AL p q h' w c = UAga s r AL p q h' w c := by
  simp only [UAga, cg_TYC h, h.1.1, h.1.2.1, h.1.2.2, h.2.1 21 (by decide) (by decide), h.2.1 22 (by decide) (by decide), h.2.1 23 (by decide) (by decide), h.2.1 24 (by decide) (by decide), h.2.1 25 (by decide) (by decide), h.2.1 26 (by decide) (by decide), h.2.1 27 (by decide) (by decide), h.2.1 28 (by decide) (by decide), h.2.1 29 (by decide) (by decide), h.2.1 30 (by decide) (by decide), h.2.1 31 (by decide) (by decide), h.2.1 32 (by decide) (by decide), h.2.1 33 (by decide) (by decide), h.2.1 34 (by decide) (by decide), h.2.1 35 (by decide) (by decide), h.2.1 36 (by decide) (by decide), h.2.1 37 (by decide) (by decide), h.2.2.2.1, h.2.2.2.2]
theorem cg_UTak (h : CGE s S r R) (AL : Als) (p : Nat) (q : Nat) (h' : Nat) (w : Nat) (g : Nat) (c : List Ent) : UTak S R AL p q h' w g c = UTak s r AL p q h' w g c := by
  simp only [UTak, h.1.1, h.1.2.1, h.1.2.2, h.2.1 21 (by decide) (by decide), h.2.1 22 (by decide) (by decide), h.2.1 23 (by decide) (by decide), h.2.1 24 (by decide) (by decide), h.2.1 25 (by decide) (by decide), h.2.1 26 (by decide) (by decide), h.2.1 27 (by decide) (by decide), h.2.1 28 (by decide) (by decide), h.2.1 29 (by decide) (by decide), h.2.1 30 (by decide) (by decide), h.2.1 31 (by decide) (by decide), h.2.1 32 (by decide) (by decide), h.2.1 33 (by decide) (by decide), h.2.1 34 (by decide) (by decide), h.2.1 35 (by decide) (by decide), h.2.1 36 (by decide) (by decide), h.2.1 37 (by decide) (by decide), h.2.2.2.1, h.2.2.2.2]
theorem cg_UTry (h : CGE s S r R) (AL : Als) (p : Nat) (q : Nat) (h' : Nat) (w : Nat) (g : Nat) (c : List Ent) : UTry S R AL p q h' w g c = UTry s r AL p q h' w g c := by
  simp only [UTry, h.1.1, h.1.2.1, h.1.2.2, h.2.1 21 (by decide) (by decide), h.2.1 22 (by decide) (by decide), h.2.1 23 (by decide) (by decide), h.2.1 24 (by decide) (by decide), h.2.1 25 (by decide) (by decide), h.2.1 26 (by decide) (by decide), h.2.1 27 (by decide) (by decide), h.2.1 28 (by decide) (by decide), h.2.1 29 (by decide) (by decide), h.2.1 30 (by decide) (by decide), h.2.1 31 (by decide) (by decide), h.2.1 32 (by decide) (by decide), h.2.1 33 (by decide) (by decide), h.2.1 34 (by decide) (by decide), h.2.1 35 (by decide) (by decide), h.2.1 36 (by decide) (by decide), h.2.1 37 (by decide) (by decide), h.2.2.2.1, h.2.2.2.2]
theorem cg_UOpe (h : CGE s S r R) (AL : Als) (p : Nat) (q : Nat) (h' : Nat) (w : Nat) (c : List Ent) : UOpe S R AL p q h' w c = UOpe s r AL p q h' w c := by
  simp only [UOpe, cg_TYC h, h.1.1, h.1.2.1, h.1.2.2, h.2.1 21 (by decide) (by decide), h.2.1 22 (by decide) (by decide), h.2.1 23 (by decide) (by decide), h.2.1 24 (by decide) (by decide), h.2.1 25 (by decide) (by decide), h.2.1 26 (by decide) (by decide), h.2.1 27 (by decide) (by decide), h.2.1 28 (by decide) (by decide), h.2.1 29 (by decide) (by decide), h.2.1 30 (by decide) (by decide), h.2.1 31 (by decide) (by decide), h.2.1 32 (by decide) (by decide), h.2.1 33 (by decide) (by decide), h.2.1 34 (by decide) (by decide), h.2.1 35 (by decide) (by decide), h.2.1 36 (by decide) (by decide), h.2.1 37 (by decide) (by decide), h.2.2.2.1, h.2.2.2.2]
theorem cg_XIT (h : CGE s S r R) (AL : Als) (T : Int32) (h' : Nat) (w : Nat) (e : Ent) (c : List Ent) : XIT S R AL T h' w e c = XIT s r AL T h' w e c := by
  simp only [XIT, cg_cTg h, cg_FCP h, h.1.1, h.1.2.1, h.1.2.2, h.2.1 21 (by decide) (by decide), h.2.1 22 (by decide) (by decide), h.2.1 23 (by decide) (by decide), h.2.1 24 (by decide) (by decide), h.2.1 25 (by decide) (by decide), h.2.1 26 (by decide) (by decide), h.2.1 27 (by decide) (by decide), h.2.1 28 (by decide) (by decide), h.2.1 29 (by decide) (by decide), h.2.1 30 (by decide) (by decide), h.2.1 31 (by decide) (by decide), h.2.1 32 (by decide) (by decide), h.2.1 33 (by decide) (by decide), h.2.1 34 (by decide) (by decide), h.2.1 35 (by decide) (by decide), h.2.1 36 (by decide) (by decide), h.2.1 37 (by decide) (by decide), h.2.2.2.1, h.2.2.2.2]
theorem cg_UEnc (h : CGE s S r R) (AL : Als) (p : Nat) (q : Nat) (h' : Nat) (w : Nat) (c : List Ent) : UEnc S R AL p q h' w c = UEnc s r AL p q h' w c := by
  simp only [UEnc, cg_HFN h, cg_XIT h, h.1.1, h.1.2.1, h.1.2.2, h.2.1 21 (by decide) (by decide), h.2.1 22 (by decide) (by decide), h.2.1 23 (by decide) (by decide), h.2.1 24 (by decide) (by decide), h.2.1 25 (by decide) (by decide), h.2.1 26 (by decide) (by decide), h.2.1 27 (by decide) (by decide), h.2.1 28 (by decide) (by decide), h.2.1 29 (by decide) (by decide), h.2.1 30 (by decide) (by decide), h.2.1 31 (by decide) (by decide), h.2.1 32 (by decide) (by decide), h.2.1 33 (by decide) (by decide), h.2.1 34 (by decide) (by decide), h.2.1 35 (by decide) (by decide), h.2.1 36 (by decide) (by decide), h.2.1 37 (by decide) (by decide), h.2.2.2.1, h.2.2.2.2]
theorem cg_UEnb (h : CGE s S r R) (AL : Als) (p : Nat) (q : Nat) (h' : Nat) (w : Nat) (c : List Ent) : UEnb S R AL p q h' w c = UEnb s r AL p q h' w c := by
  simp only [UEnb, cg_TYC h, cg_XIT h, h.1.1, h.1.2.1, h.1.2.2, h.2.1 21 (by decide) (by decide), h.2.1 22 (by decide) (by decide), h.2.1 23 (by decide) (by decide), h.2.1 24 (by decide) (by decide), h.2.1 25 (by decide) (by decide), h.2.1 26 (by decide) (by decide), h.2.1 27 (by decide) (by decide), h.2.1 28 (by decide) (by decide), h.2.1 29 (by decide) (by decide), h.2.1 30 (by decide) (by decide), h.2.1 31 (by decide) (by decide), h.2.1 32 (by decide) (by decide), h.2.1 33 (by decide) (by decide), h.2.1 34 (by decide) (by decide), h.2.1 35 (by decide) (by decide), h.2.1 36 (by decide) (by decide), h.2.1 37 (by decide) (by decide), h.2.2.2.1, h.2.2.2.2]
theorem cg_UEnf (h : CGE s S r R) (AL : Als) (p : Nat) (q : Nat) (h' : Nat) (w : Nat) (c : List Ent) : UEnf S R AL p q h' w c = UEnf s r AL p q h' w c := by
  simp only [UEnf, cg_TYC h, h.1.1, h.1.2.1, h.1.2.2, h.2.1 21 (by decide) (by decide), h.2.1 22 (by decide) (by decide), h.2.1 23 (by decide) (by decide), h.2.1 24 (by decide) (by decide), h.2.1 25 (by decide) (by decide), h.2.1 26 (by decide) (by decide), h.2.1 27 (by decide) (by decide), h.2.1 28 (by decide) (by decide), h.2.1 29 (by decide) (by decide), h.2.1 30 (by decide) (by decide), h.2.1 31 (by decide) (by decide), h.2.1 32 (by decide) (by decide), h.2.1 33 (by decide) (by decide), h.2.1 34 (by decide) (by decide), h.2.1 35 (by decide) (by decide), h.2.1 36 (by decide) (by decide), h.2.1 37 (by decide) (by decide), h.2.2.2.1, h.2.2.2.2]
theorem cg_URel (h : CGE s S r R) (AL : Als) (p : Nat) (q : Nat) (w : Nat) (h' : Nat) (c : List Ent) : URel S R AL p q w h' c = URel s r AL p q w h' c := by
  simp only [URel, cg_cTg h, h.1.1, h.1.2.1, h.1.2.2, h.2.1 21 (by decide) (by decide), h.2.1 22 (by decide) (by decide), h.2.1 23 (by decide) (by decide), h.2.1 24 (by decide) (by decide), h.2.1 25 (by decide) (by decide), h.2.1 26 (by decide) (by decide), h.2.1 27 (by decide) (by decide), h.2.1 28 (by decide) (by decide), h.2.1 29 (by decide) (by decide), h.2.1 30 (by decide) (by decide), h.2.1 31 (by decide) (by decide), h.2.1 32 (by decide) (by decide), h.2.1 33 (by decide) (by decide), h.2.1 34 (by decide) (by decide), h.2.1 35 (by decide) (by decide), h.2.1 36 (by decide) (by decide), h.2.1 37 (by decide) (by decide), h.2.2.2.1, h.2.2.2.2]
theorem cg_UAre (h : CGE s S r R) (AL : Als) (p : Nat) (q : Nat) (h' : Nat) (w : Nat) (c : List Ent) : UAre S R AL p q h' w c = UAre s r AL p q h' w c := by
  simp only [UAre, cg_JX h, h.1.1, h.1.2.1, h.1.2.2, h.2.1 21 (by decide) (by decide), h.2.1 22 (by decide) (by decide), h.2.1 23 (by decide) (by decide), h.2.1 24 (by decide) (by decide), h.2.1 25 (by decide) (by decide), h.2.1 26 (by decide) (by decide), h.2.1 27 (by decide) (by decide), h.2.1 28 (by decide) (by decide), h.2.1 29 (by decide) (by decide), h.2.1 30 (by decide) (by decide), h.2.1 31 (by decide) (by decide), h.2.1 32 (by decide) (by decide), h.2.1 33 (by decide) (by decide), h.2.1 34 (by decide) (by decide), h.2.1 35 (by decide) (by decide), h.2.1 36 (by decide) (by decide), h.2.1 37 (by decide) (by decide), h.2.2.2.1, h.2.2.2.2]
theorem cg_URwp (h : CGE s S r R) (AL : Als) (p : Nat) (q : Nat) (h' : Nat) (w : Nat) (c : List Ent) : URwp R AL p q h' w c = URwp r AL p q h' w c := by
  simp only [URwp, h.1.1, h.1.2.1, h.1.2.2, h.2.1 21 (by decide) (by decide), h.2.1 22 (by decide) (by decide), h.2.1 23 (by decide) (by decide), h.2.1 24 (by decide) (by decide), h.2.1 25 (by decide) (by decide), h.2.1 26 (by decide) (by decide), h.2.1 27 (by decide) (by decide), h.2.1 28 (by decide) (by decide), h.2.1 29 (by decide) (by decide), h.2.1 30 (by decide) (by decide), h.2.1 31 (by decide) (by decide), h.2.1 32 (by decide) (by decide), h.2.1 33 (by decide) (by decide), h.2.1 34 (by decide) (by decide), h.2.1 35 (by decide) (by decide), h.2.1 36 (by decide) (by decide), h.2.1 37 (by decide) (by decide), h.2.2.2.1, h.2.2.2.2]
theorem cg_UGo3 (h : CGE s S r R) (AL : Als) (p : Nat) (q : Nat) (h' : Nat) (w : Nat) (c : List Ent) : UGo3 S R AL p q h' w c = UGo3 s r AL p q h' w c := by
  simp only [UGo3, cg_JX h, h.1.1, h.1.2.1, h.1.2.2, h.2.1 21 (by decide) (by decide), h.2.1 22 (by decide) (by decide), h.2.1 23 (by decide) (by decide), h.2.1 24 (by decide) (by decide), h.2.1 25 (by decide) (by decide), h.2.1 26 (by decide) (by decide), h.2.1 27 (by decide) (by decide), h.2.1 28 (by decide) (by decide), h.2.1 29 (by decide) (by decide), h.2.1 30 (by decide) (by decide), h.2.1 31 (by decide) (by decide), h.2.1 32 (by decide) (by decide), h.2.1 33 (by decide) (by decide), h.2.1 34 (by decide) (by decide), h.2.1 35 (by decide) (by decide), h.2.1 36 (by decide) (by decide), h.2.1 37 (by decide) (by decide), h.2.2.2.1, h.2.2.2.2]
theorem cg_URow (h : CGE s S r R) (AL : Als) (p : Nat) (q : Nat) (h' : Nat) (w : Nat) (c : List Ent) : URow S R AL p q h' w c = URow s r AL p q h' w c := by
  simp only [URow, h.1.1, h.1.2.1, h.1.2.2, h.2.1 21 (by decide) (by decide), h.2.1 22 (by decide) (by decide), h.2.1 23 (by decide) (by decide), h.2.1 24 (by decide) (by decide), h.2.1 25 (by decide) (by decide), h.2.1 26 (by decide) (by decide), h.2.1 27 (by decide) (by decide), h.2.1 28 (by decide) (by decide), h.2.1 29 (by decide) (by decide), h.2.1 30 (by decide) (by decide), h.2.1 31 (by decide) (by decide), h.2.1 32 (by decide) (by decide), h.2.1 33 (by decide) (by decide), h.2.1 34 (by decide) (by decide), h.2.1 35 (by decide) (by decide), h.2.1 36 (by decide) (by decide), h.2.1 37 (by decide) (by decide), h.2.2.2.1, h.2.2.2.2]
theorem cg_URwn (h : CGE s S r R) (nm : Nat → Nat → Prop) (AL : Als) (p : Nat) (q : Nat) (h' : Nat) (w : Nat) (c : List Ent) : URwn S R nm AL p q h' w c = URwn s r nm AL p q h' w c := by
  simp only [URwn, cg_JX h, h.1.1, h.1.2.1, h.1.2.2, h.2.1 21 (by decide) (by decide), h.2.1 22 (by decide) (by decide), h.2.1 23 (by decide) (by decide), h.2.1 24 (by decide) (by decide), h.2.1 25 (by decide) (by decide), h.2.1 26 (by decide) (by decide), h.2.1 27 (by decide) (by decide), h.2.1 28 (by decide) (by decide), h.2.1 29 (by decide) (by decide), h.2.1 30 (by decide) (by decide), h.2.1 31 (by decide) (by decide), h.2.1 32 (by decide) (by decide), h.2.1 33 (by decide) (by decide), h.2.1 34 (by decide) (by decide), h.2.1 35 (by decide) (by decide), h.2.1 36 (by decide) (by decide), h.2.1 37 (by decide) (by decide), h.2.2.2.1, h.2.2.2.2]
theorem cg_DSP (h : CGE s S r R) (d : Nat) (n : Nat) : DSP S d n = DSP s d n := by
  simp only [DSP, h.1.1, h.1.2.1, h.1.2.2, h.2.1 21 (by decide) (by decide), h.2.1 22 (by decide) (by decide), h.2.1 23 (by decide) (by decide), h.2.1 24 (by decide) (by decide), h.2.1 25 (by decide) (by decide), h.2.1 26 (by decide) (by decide), h.2.1 27 (by decide) (by decide), h.2.1 28 (by decide) (by decide), h.2.1 29 (by decide) (by decide), h.2.1 30 (by decide) (by decide), h.2.1 31 (by decide) (by decide), h.2.1 32 (by decide) (by decide), h.2.1 33 (by decide) (by decide), h.2.1 34 (by decide) (by decide), h.2.1 35 (by decide) (by decide), h.2.1 36 (by decide) (by decide), h.2.1 37 (by decide) (by decide), h.2.2.2.1, h.2.2.2.2]
theorem cg_CHL (h : CGE s S r R) : ∀ (L : List Nat) (x : Int32), CHL R L x = CHL r L x
  | [], x => by simp only [CHL]
  | k :: L, x => by simp only [CHL, cg_CHL h L, h.1.1, h.1.2.1, h.1.2.2, h.2.1 21 (by decide) (by decide), h.2.1 22 (by decide) (by decide), h.2.1 23 (by decide) (by decide), h.2.1 24 (by decide) (by decide), h.2.1 25 (by decide) (by decide), h.2.1 26 (by decide) (by decide), h.2.1 27 (by decide) (by decide), h.2.1 28 (by decide) (by decide), h.2.1 29 (by decide) (by decide), h.2.1 30 (by decide) (by decide), h.2.1 31 (by decide) (by decide), h.2.1 32 (by decide) (by decide), h.2.1 33 (by decide) (by decide), h.2.1 34 (by decide) (by decide), h.2.1 35 (by decide) (by decide), h.2.1 36 (by decide) (by decide), h.2.1 37 (by decide) (by decide), h.2.2.2.1, h.2.2.2.2]
theorem cg_CHO (h : CGE s S r R) (AL : Als) (q : Nat) (h' : Nat) (w : Nat) (d : Nat) (n : Nat) (L : List Nat) (c : List Ent) : CHO S R AL q h' w d n L c = CHO s r AL q h' w d n L c := by
  simp only [CHO, cg_JX h, h.1.1, h.1.2.1, h.1.2.2, h.2.1 21 (by decide) (by decide), h.2.1 22 (by decide) (by decide), h.2.1 23 (by decide) (by decide), h.2.1 24 (by decide) (by decide), h.2.1 25 (by decide) (by decide), h.2.1 26 (by decide) (by decide), h.2.1 27 (by decide) (by decide), h.2.1 28 (by decide) (by decide), h.2.1 29 (by decide) (by decide), h.2.1 30 (by decide) (by decide), h.2.1 31 (by decide) (by decide), h.2.1 32 (by decide) (by decide), h.2.1 33 (by decide) (by decide), h.2.1 34 (by decide) (by decide), h.2.1 35 (by decide) (by decide), h.2.1 36 (by decide) (by decide), h.2.1 37 (by decide) (by decide), h.2.2.2.1, h.2.2.2.2]
theorem cg_UCho (h : CGE s S r R) (AL : Als) (p : Nat) (q : Nat) (h' : Nat) (w : Nat) (c : List Ent) : UCho S R AL p q h' w c = UCho s r AL p q h' w c := by
  simp only [UCho, cg_cTg h, cg_JX h, cg_DSP h, cg_CHL h, cg_CHO h, h.1.1, h.1.2.1, h.1.2.2, h.2.1 21 (by decide) (by decide), h.2.1 22 (by decide) (by decide), h.2.1 23 (by decide) (by decide), h.2.1 24 (by decide) (by decide), h.2.1 25 (by decide) (by decide), h.2.1 26 (by decide) (by decide), h.2.1 27 (by decide) (by decide), h.2.1 28 (by decide) (by decide), h.2.1 29 (by decide) (by decide), h.2.1 30 (by decide) (by decide), h.2.1 31 (by decide) (by decide), h.2.1 32 (by decide) (by decide), h.2.1 33 (by decide) (by decide), h.2.1 34 (by decide) (by decide), h.2.1 35 (by decide) (by decide), h.2.1 36 (by decide) (by decide), h.2.1 37 (by decide) (by decide), h.2.2.2.1, h.2.2.2.2]
theorem cg_URkp (h : CGE s S r R) (AL : Als) (p : Nat) (q : Nat) (h' : Nat) (w : Nat) (g : Nat) (c : List Ent) : URkp R AL p q h' w g c = URkp r AL p q h' w g c := by
  simp only [URkp, h.1.1, h.1.2.1, h.1.2.2, h.2.1 21 (by decide) (by decide), h.2.1 22 (by decide) (by decide), h.2.1 23 (by decide) (by decide), h.2.1 24 (by decide) (by decide), h.2.1 25 (by decide) (by decide), h.2.1 26 (by decide) (by decide), h.2.1 27 (by decide) (by decide), h.2.1 28 (by decide) (by decide), h.2.1 29 (by decide) (by decide), h.2.1 30 (by decide) (by decide), h.2.1 31 (by decide) (by decide), h.2.1 32 (by decide) (by decide), h.2.1 33 (by decide) (by decide), h.2.1 34 (by decide) (by decide), h.2.1 35 (by decide) (by decide), h.2.1 36 (by decide) (by decide), h.2.1 37 (by decide) (by decide), h.2.2.2.1, h.2.2.2.2]
theorem cg_UNI (h : CGE s S r R) {nm : Nat → Nat → Prop} {AL : Als} {p q h' w g : Nat} {c : List Ent} (z : UNI s r nm AL p q h' w g c) : UNI S R nm AL p q h' w g c := by
  unfold UNI at z ⊢
  simp only [cg_UEnd h, cg_UCgo h, cg_UPush h, cg_ULoad h, cg_UStor h, cg_UNeg h, cg_UAri h, cg_UCau h, cg_UKep h, cg_UJmp h, cg_UJz h, cg_UOut h, cg_UJnf h, cg_UJnb h, cg_UAsr h, cg_URet h, cg_UGo h, cg_UDiv h, cg_UStp h, cg_UFor h, cg_UAga h, cg_UTak h, cg_UTry h, cg_UOpe h, cg_UEnc h, cg_UEnb h, cg_UEnf h, cg_URel h, cg_UAre h, cg_URwp h, cg_UGo3 h, cg_URow h, cg_URwn h, cg_UCho h, cg_URkp h, h.2.2.2.2]
  exact z.imp_right (fun k => ⟨k.1, (Or.imp_right (Or.imp_right (Or.imp_right (Or.imp_right (Or.imp_right (Or.imp_right (Or.imp_right (Or.imp_right (Or.imp_right (Or.imp_right (Or.imp_right (Or.imp_right (Or.imp_right (Or.imp_right (Or.imp_right (Or.imp (cg_URai h) (Or.imp (cg_URa0 h) id))))))))))))))))) k.2⟩)
theorem CODW.cg {nm : Nat → Nat → Prop} {AL : Als} (h : CGE s S r R) (c : CODW s r nm AL) : CODW S R nm AL := ⟨c.1, c.2.1, fun p q h' w g c' z => cg_UNI h (c.2.2.1 p q h' w g c' z), c.2.2.2⟩
end
end
section
/-! the reference: slots of a text that was read -/
theorem p_slots {N : Nat} (hN : 40000 ≤ N) {s : RS} (h : RD0 s) : ok (f_X12_parse N s) (fun R => (R.i 75 = 0 ∨ R.i 75 = 1) ∧ (R.i 15 = 0 → (R.i 42).toInt ≤ 460)) := by
  unfold f_X12_parse
  have e : f_X12_push N (RS.setI s 63 (-1)) 1 = some (PU s) := by
    have e0 : ((RS.setI s 63 (-1)).i 63) + 1 = (0 : Int32) := by show (-1 : Int32) + 1 = 0; decide
    unfold f_X12_push
    rw [e0, if_pos (show ib (0 : Int32) 1000 from ⟨by decide, by decide⟩)]
    rfl
  rw [e]
  show ok (f_X12_parse_10 N N (PU s)) _
  have hp := PU.rd h
  have f0 := hp.1.f0
  have n := hp.n
  refine (run_all (N := N) (by omega) 900).2.2.2.2.2.2.2.1 N (PU s) 0 _ hp.inv hp.prl (by show (0 : Int32).toInt = ((0 : Nat) : Int); decide) rfl rfl (by omega) (by omega) (by omega) (fun u hu => ?_) (fun m u hu hu2 hm => ?_)
  · exact ⟨hu.2.2, fun q => absurd q hu.1⟩
  · have fu := hu.1.1.f0
    obtain ⟨m', rfl⟩ : ∃ m', m = m' + 1 := ⟨m - 1, by omega⟩
    have tp : tpI u = -1 := by have := hu.2.1; omega
    show ok (b_X12_parse_10 N (f_X12_parse_10 N m') u) _
    unfold b_X12_parse_10
    have e1 : u.i 63 < 0 := Int32.lt_iff_toInt_lt.mpr (by rw [z_t0]; show tpI u < 0; omega)
    rw [if_pos e1]
    exact ok_some ⟨hu.1.r, fun _ => by
      have nm := hu.1.2.2.2.2.2.2.2.2.2.2.1
      show slI u ≤ 460
      omega⟩
set_option maxHeartbeats 1000000 in
/-- few slots -/
theorem rd_slt {N : Nat} (hN : 40000 ≤ N) {s : RS} (h : RI s) : ok (f_X12_read N s) (fun R => ¬ R.2.i 77 = 0 → (R.2.i 42).toInt ≤ 460) := by
  obtain ⟨h1, h2, h3, h4, h5⟩ := h
  unfold f_X12_read
  obtain ⟨A, hA⟩ : ∃ A, A = RS.setI (RS.setI (RS.setI (RS.setI (RS.setI (RS.setI (RS.setI (RS.setI (RS.setI s 0 0) 38 0) 42 0) 43 0) 19 0) 53 0) 54 0) 55 0) 20 0 := ⟨_, rfl⟩
  have iA : ∀ j : Nat, j ≠ 0 → j ≠ 19 → j ≠ 20 → j ≠ 38 → j ≠ 42 → j ≠ 43 → ¬ (53 ≤ j ∧ j ≤ 55) → A.i j = s.i j := fun j q0 q1 q2 q3 q4 q5 q6 => by
    rw [hA]
    exact (if_neg q2).trans ((if_neg (by omega)).trans ((if_neg (by omega)).trans ((if_neg (by omega)).trans ((if_neg q1).trans ((if_neg q5).trans ((if_neg q4).trans ((if_neg q3).trans (if_neg q0))))))))
  have A19 : A.i 19 = 0 := by rw [hA]; rfl
  have A20 : A.i 20 = 0 := by rw [hA]; rfl
  have A38 : A.i 38 = 0 := by rw [hA]; rfl
  have A42 : A.i 42 = 0 := by rw [hA]; rfl
  have A43 : A.i 43 = 0 := by rw [hA]; rfl
  have aA : A.a = s.a := by rw [hA]; rfl
  have bA : A.b = s.b := by rw [hA]; rfl
  rw [← hA]
  clear hA
  obtain ⟨B, hB⟩ : ∃ B, B = RS.setI (RS.setI (RS.setI (RS.setI (RS.setI (RS.setI (RS.setI (RS.setI (RS.setI (RS.setI A 24 0) 29 0) 33 0) 56 0) 59 0) 52 0) 12 0) 15 0) 18 (-1)) 17 0 := ⟨_, rfl⟩
  have iB : ∀ j : Nat, j ≠ 12 → j ≠ 15 → j ≠ 17 → j ≠ 18 → j ≠ 24 → j ≠ 29 → j ≠ 33 → j ≠ 52 → j ≠ 56 → j ≠ 59 → B.i j = A.i j := fun j q0 q1 q2 q3 q4 q5 q6 q7 q8 q9 => by
    rw [hB]
    exact (if_neg q2).trans ((if_neg q3).trans ((if_neg q1).trans ((if_neg q0).trans ((if_neg q7).trans ((if_neg q9).trans ((if_neg q8).trans ((if_neg q6).trans ((if_neg q5).trans (if_neg q4)))))))))
  have B12 : B.i 12 = 0 := by rw [hB]; rfl
  have B15 : B.i 15 = 0 := by rw [hB]; rfl
  have B17 : B.i 17 = 0 := by rw [hB]; rfl
  have B24 : B.i 24 = 0 := by rw [hB]; rfl
  have B29 : B.i 29 = 0 := by rw [hB]; rfl
  have B33 : B.i 33 = 0 := by rw [hB]; rfl
  have B52 : B.i 52 = 0 := by rw [hB]; rfl
  have B56 : B.i 56 = 0 := by rw [hB]; rfl
  have B59 : B.i 59 = 0 := by rw [hB]; rfl
  have aB : B.a = s.a := by rw [hB]; exact aA
  have bB : B.b = s.b := by rw [hB]; exact bA
  rw [← hB]
  clear hB
  have B38 : B.i 38 = 0 := by rw [iB 38 (by decide) (by decide) (by decide) (by decide) (by decide) (by decide) (by decide) (by decide) (by decide) (by decide)]; exact A38
  have B42 : B.i 42 = 0 := by rw [iB 42 (by decide) (by decide) (by decide) (by decide) (by decide) (by decide) (by decide) (by decide) (by decide) (by decide)]; exact A42
  have seB : seI B = 0 := by unfold seI; rw [B38]; exact z_t0
  have slB : slI B = 0 := by unfold slI; rw [B42]; exact z_t0
  rw [p_se (N := N) 97 (Or.inl rfl) (by omega) (by omega)]
  show ok ((f_X12_see N (SE B 97 0) 98 0).bind fun p3 => (f_X12_next N p3.2).bind fun p5 => (f_X12_parse N p5).bind fun p7 => (if (p7.i 10) = 0 then (f_X12_can N p7 1).bind fun p19 => f_X12_read_138 N p19.2 else (f_X12_can N p7 0).bind fun p10 => f_X12_read_138 N p10.2)) _
  obtain ⟨C, hC⟩ : ∃ C, C = SE B 97 0 := ⟨_, rfl⟩
  have iC : ∀ j : Nat, j ≠ 38 → j ≠ 42 → C.i j = B.i j := fun j q1 q2 => by rw [hC]; exact SE.eI q1 q2
  have aC : ∀ k : Nat, k ≠ 40 → k ≠ 41 → C.a k = s.a k := fun k q1 q2 => by rw [hC, SE.eA q1 q2, aB]
  have n0 : (B.i 38).toNatClampNeg = 0 := by rw [B38]; decide
  have C40 : C.a 40 0 = 0 := by
    have e := SE.a40 (u := B) (n := 97) (c := 0)
    rw [n0, B42] at e
    rw [hC]; exact e
  have C41 : C.a 41 0 = 0 := by
    have e := SE.a41 (u := B) (n := 97) (c := 0)
    rw [n0] at e
    rw [hC]; exact e
  have seC : seI C = 1 := by rw [hC, SE.eSE (by omega) (by omega)]; omega
  have slC : slI C = 1 := by rw [hC, SE.eSL (by omega) (by omega)]; omega
  have C38 : C.i 38 = 1 := by
    rw [hC]; show B.i 38 + 1 = 1; rw [B38]; decide
  have C42 : C.i 42 = 1 := by
    rw [hC]; show B.i 42 + 1 = 1; rw [B42]; decide
  have bC : C.b 9 = s.b 9 := by rw [hC, ← bB]; rfl
  rw [← hC]
  clear hC
  rw [p_se (N := N) 98 (Or.inl rfl) (by omega) (by omega)]
  show ok ((f_X12_next N (SE C 98 0)).bind fun p5 => (f_X12_parse N p5).bind fun p7 => (if (p7.i 10) = 0 then (f_X12_can N p7 1).bind fun p19 => f_X12_read_138 N p19.2 else (f_X12_can N p7 0).bind fun p10 => f_X12_read_138 N p10.2)) _
  obtain ⟨D, hD⟩ : ∃ D, D = SE C 98 0 := ⟨_, rfl⟩
  have iD : ∀ j : Nat, j ≠ 38 → j ≠ 42 → D.i j = B.i j := fun j q1 q2 => by rw [hD, SE.eI q1 q2]; exact iC j q1 q2
  have aD : ∀ k : Nat, k ≠ 40 → k ≠ 41 → D.a k = s.a k := fun k q1 q2 => by rw [hD, SE.eA q1 q2]; exact aC k q1 q2
  have n1 : (C.i 38).toNatClampNeg = 1 := by rw [C38]; decide
  have D40 : D.a 40 1 = 1 := by
    have e := SE.a40 (u := C) (n := 98) (c := 0)
    rw [n1, C42] at e
    rw [hD]; exact e
  have D41 : D.a 41 1 = 0 := by
    have e := SE.a41 (u := C) (n := 98) (c := 0)
    rw [n1] at e
    rw [hD]; exact e
  have D400 : D.a 40 0 = 0 := by rw [hD, SE.lo (by rw [n1]; decide)]; exact C40
  have D410 : D.a 41 0 = 0 := by rw [hD, SE.lo (by rw [n1]; decide)]; exact C41
  have seD : seI D = 2 := by rw [hD, SE.eSE (by omega) (by omega)]; omega
  have slD : slI D = 2 := by rw [hD, SE.eSL (by omega) (by omega)]; omega
  have bD : D.b 9 = s.b 9 := by rw [hD, ← bC]; rfl
  rw [← hD]
  clear hD
  have iDs : ∀ j : Nat, (0 < j ∧ j < 10) ∨ 75 ≤ j → D.i j = s.i j := fun j hj => by
    rw [iD j (by omega) (by omega), iB j (by omega) (by omega) (by omega) (by omega) (by omega) (by omega) (by omega) (by omega) (by omega) (by omega), iA j (by omega) (by omega) (by omega) (by omega) (by omega) (by omega) (by omega)]
  have D2 : D.i 2 = s.i 2 := iDs 2 (by omega)
  have D12 : D.i 12 = 0 := (iD 12 (by decide) (by decide)).trans B12
  have D15 : D.i 15 = 0 := (iD 15 (by decide) (by decide)).trans B15
  have D17 : D.i 17 = 0 := (iD 17 (by decide) (by decide)).trans B17
  have wD : WD D := fun k hk => by rw [bD]; exact h3 k hk
  refine ok_bind (p_next (by omega) D (by rw [D12]; decide) (by rw [D12, D2]; exact h1.1.1) (by rw [D2]; exact h1.1.2) wD) (fun R hR => ?_)
  rcases hR with ⟨c, -⟩ | ⟨-, ⟨⟨u1, u2, u3⟩, t1, t2, t3, t4, t5, t6, t7, t8, t9⟩, hf⟩
  · exact absurd D15 c
  have iR : ∀ j : Nat, j ≠ 10 → j ≠ 11 → j ≠ 12 → j ≠ 14 → j ≠ 17 → R.i j = D.i j := fun j q1 q2 q3 q4 q5 => (u1 j q1 q2 q3 q4).trans (if_neg q5)
  have R17 : R.i 17 = 1 := by
    rw [u1 17 (by decide) (by decide) (by decide) (by decide)]
    show D.i 17 + 1 = 1
    rw [D17]; decide
  have aR : R.a = D.a := u2
  have bR : R.b = D.b := u3
  have R2 : R.i 2 = s.i 2 := (iR 2 (by decide) (by decide) (by decide) (by decide) (by decide)).trans D2
  have R3 : R.i 3 = s.i 3 := (iR 3 (by decide) (by decide) (by decide) (by decide) (by decide)).trans (iDs 3 (by omega))
  have wR : WD R := fun k hk => by rw [bR, bD]; exact h3 k hk
  have lR : LXI R := ⟨t1, t2, t3, by rw [R2]; exact h1.1.2, t4, t5, t6, t7, t8, wR, t9⟩
  have fR := lR.f0
  have iRB : ∀ j : Nat, 18 ≤ j → j ≠ 38 → j ≠ 42 → R.i j = B.i j := fun j q1 q2 q3 => (iR j (by omega) (by omega) (by omega) (by omega) (by omega)).trans (iD j q2 q3)
  have iRA : ∀ j : Nat, 18 < j → j ≠ 24 → j ≠ 29 → j ≠ 33 → j ≠ 38 → j ≠ 42 → j ≠ 52 → j ≠ 56 → j ≠ 59 → R.i j = A.i j := fun j q1 q2 q3 q4 q5 q6 q7 q8 q9 => (iRB j (by omega) q5 q6).trans (iB j (by omega) (by omega) (by omega) (by omega) q2 q3 q4 q7 q8 q9)
  have rd : RD0 R := by
    refine ⟨lR, RB.of R2 R3 (by rw [aR, aD 4 (by decide) (by decide)]) (by rw [aR, aD 6 (by decide) (by decide)]) (by rw [aR, aD 7 (by decide) (by decide)]) h1, (iR 15 (by decide) (by decide) (by decide) (by decide) (by decide)).trans D15, ?_, ⟨(iRA 19 (by decide) (by decide) (by decide) (by decide) (by decide) (by decide) (by decide) (by decide) (by decide)).trans A19, (iRA 20 (by decide) (by decide) (by decide) (by decide) (by decide) (by decide) (by decide) (by decide) (by decide)).trans A20, (iRB 24 (by decide) (by decide) (by decide)).trans B24, (iRB 29 (by decide) (by decide) (by decide)).trans B29, (iRB 33 (by decide) (by decide) (by decide)).trans B33, (iRA 43 (by decide) (by decide) (by decide) (by decide) (by decide) (by decide) (by decide) (by decide) (by decide)).trans A43, (iRB 52 (by decide) (by decide) (by decide)).trans B52, (iRB 56 (by decide) (by decide) (by decide)).trans B56, (iRB 59 (by decide) (by decide) (by decide)).trans B59⟩, ⟨?_, ?_⟩, fun x hx => ?_, ?_⟩
    · rw [iR 75 (by decide) (by decide) (by decide) (by decide) (by decide), iDs 75 (by omega)]; exact h4
    · rw [← seD]; unfold seI; rw [iR 38 (by decide) (by decide) (by decide) (by decide) (by decide)]
    · rw [← slD]; unfold slI; rw [iR 42 (by decide) (by decide) (by decide) (by decide) (by decide)]
    · unfold gv
      rw [aR]
      have e1 : (1 : Int32).toInt = 1 := by decide
      rcases Nat.lt_or_ge x 1 with q | q
      · have e : x = 0 := by omega
        rw [e, D400, D410, z_t0]
        exact ⟨by omega, by omega, rfl⟩
      · have e : x = 1 := by omega
        rw [e, D40, D41, e1]
        exact ⟨by omega, by omega, rfl⟩
    · have e1 : (1 : Int32).toInt = 1 := by decide
      unfold tkI
      rw [R17, e1]
      omega
  have iRs : ∀ j : Nat, (0 < j ∧ j < 10) ∨ 76 ≤ j → R.i j = s.i j := fun j hj => (iR j (by omega) (by omega) (by omega) (by omega) (by omega)).trans (iDs j (by omega))
  have aRs : ∀ k : Nat, k ≠ 40 → k ≠ 41 → R.a k = s.a k := fun k q1 q2 => by rw [aR]; exact aD k q1 q2
  have bRs : R.b 9 = s.b 9 := by rw [bR]; exact bD
  clear iA iB iC iD iDs aD aC aB aA iR iRB iRA
  refine ok_bind (p_slots hN rd) (fun p hp => ?_)
  have fin : ∀ x : Int32, ok ((f_X12_can N p x).bind fun p19 => f_X12_read_138 N p19.2) (fun R => ¬ R.2.i 77 = 0 → (R.2.i 42).toInt ≤ 460) := fun x => by
    refine ok_bind p_can2 (fun q hq => ?_)
    obtain ⟨q1, q2, q3, q4⟩ := hq
    refine ok_imp (p_138 (by rw [q1 75 (by decide) (by decide)]; exact hp.1)) (fun T hT => ?_)
    obtain ⟨y1, y2, y3, y4, y5, y6⟩ := hT
    intro z
    obtain ⟨z1, z2⟩ := y6 z
    have e := q4 z1
    rw [e] at z1
    rw [(y1 42 (by omega) (by decide) (by decide) (by decide)).trans (q1 42 (by decide) (by decide))]
    exact hp.2 z1
  exact ok_ite (fun _ => fin 1) (fun _ => fin 0)
end
section
/-! the class: its words stay -/
def pWd (s : CS) : Nat → Int64 := CS.b s 40
def Kwd {α : Type} (v : Nat → Int64) (t : Option (α × CS)) : Prop := ∀ R, t = some R → pWd R.2 = v
theorem kwd_some {α : Type} {v : Nat → Int64} {r : α × CS} (h : pWd r.2 = v) : Kwd v (some r) := fun R q => by
  cases q
  exact h
theorem kwd_none {α : Type} {v : Nat → Int64} : Kwd v (none : Option (α × CS)) := fun R q => by cases q
theorem kwd_ite {α : Type} {v : Nat → Int64} {c : Prop} [Decidable c] {x y : Option (α × CS)} (hx : Kwd v x) (hy : Kwd v y) : Kwd v (if c then x else y) := by
  by_cases h : c
  · rw [if_pos h]; exact hx
  · rw [if_neg h]; exact hy
theorem kwd_bind {α β : Type} {v : Nat → Int64} {x : Option (α × CS)} {g : α × CS → Option (β × CS)} (hx : Kwd v x) (hk : ∀ p : α × CS, Kwd (pWd p.2) (g p)) : Kwd v (x.bind g) := by
  intro R h
  obtain ⟨p, h1, h2⟩ := hf_bind h
  exact (hk p R h2).trans (hx p h1)
theorem kwd_oc {α β : Type} {v : Nat → Int64} {r : Option α} {x : Option (β × CS)} {g : α → Option (β × CS)} (hx : Kwd v x) (hf : ∀ a, Kwd v (g a)) : Kwd v (oCase r x g) := by
  cases r with
  | none => exact hx
  | some a => exact hf a
theorem kwd_le {α : Type} {v w : Nat → Int64} {t : Option (α × CS)} (h : v = w) (ht : Kwd v t) : Kwd w t := by rw [← h]; exact ht
theorem kW_X0_clear (N : Nat) (σ : CS) : Kwd (pWd σ) (f_X0_clear N σ) := by
  unfold f_X0_clear
  exact (kwd_some (rfl))
theorem kW_X0_add (N : Nat) (σ : CS) (x1 : Int32) (x2 : Int32) : Kwd (pWd σ) (f_X0_add N σ x1 x2) := by
  unfold f_X0_add
  exact (kwd_some (rfl))
theorem kW_X0_newTarget (N : Nat) (σ : CS) : Kwd (pWd σ) (f_X0_newTarget N σ) := by
  unfold f_X0_newTarget
  exact (kwd_some (rfl))
theorem kW_X0_aim (N : Nat) (σ : CS) (x1 : Int32) : Kwd (pWd σ) (f_X0_aim N σ x1) := by
  unfold f_X0_aim
  exact (kwd_some (rfl))
theorem kW_X0_newCells (N : Nat) (σ : CS) (x1 : Int32) : Kwd (pWd σ) (f_X0_newCells N σ x1) := by
  unfold f_X0_newCells
  exact (kwd_some (rfl))
theorem kWb_X0_hasCase_2 (N : Nat) (K : CS → Int32 → Int32 → Option (Int32 × CS)) (hMK : ∀ (σ : CS) (x2 : Int32) (x3 : Int32), Kwd (pWd σ) (K σ x2 x3)) (σ : CS) (x2 : Int32) (x3 : Int32) : Kwd (pWd σ) (b_X0_hasCase_2 N K σ x2 x3) := by
  unfold b_X0_hasCase_2
  exact (kwd_ite (kwd_some (rfl)) (kwd_ite (kwd_some (rfl)) (hMK σ x2 (x3 + 1))))
theorem kW_X0_hasCase_2 (N : Nat) : ∀ (n : Nat) (σ : CS) (x2 : Int32) (x3 : Int32), Kwd (pWd σ) (f_X0_hasCase_2 N n σ x2 x3)
  | 0, _, _, _ => kwd_none
  | n+1, σ, x2, x3 => kWb_X0_hasCase_2 N (f_X0_hasCase_2 N n) (fun σ x2 x3 => kW_X0_hasCase_2 N n σ x2 x3) σ x2 x3
theorem kW_X0_hasCase (N : Nat) (σ : CS) (x1 : Int32) (x2 : Int32) : Kwd (pWd σ) (f_X0_hasCase N σ x1 x2) := by
  unfold f_X0_hasCase
  exact (kW_X0_hasCase_2 N N σ x2 x1)
theorem kW_X0_addCase (N : Nat) (σ : CS) (x1 : Int32) (x2 : Int32) : Kwd (pWd σ) (f_X0_addCase N σ x1 x2) := by
  unfold f_X0_addCase
  exact (kwd_some (rfl))
theorem kWb_X0_addCases_2 (N : Nat) (K : CS → Int32 → Int32 → Int32 → Option (Unit × CS)) (hMK : ∀ (σ : CS) (x1 : Int32) (x2 : Int32) (x3 : Int32), Kwd (pWd σ) (K σ x1 x2 x3)) (σ : CS) (x1 : Int32) (x2 : Int32) (x3 : Int32) : Kwd (pWd σ) (b_X0_addCases_2 N K σ x1 x2 x3) := by
  unfold b_X0_addCases_2
  exact (kwd_ite (kwd_bind (kW_X0_add N (CS.setI σ 22 x1) 6 0) (fun p2 => (kwd_bind (kW_X0_add N p2.2 30 x2) (fun p6 => (kwd_some (rfl)))))) (kwd_bind (kW_X0_add N σ 0 (gAt (σ.a 18) 320 x3)) (fun p11 => (kwd_bind (kW_X0_add N p11.2 34 (gAt (p11.2.a 19) 320 x3)) (fun p16 => (hMK p16.2 x1 x2 (x3 + 1)))))))
theorem kW_X0_addCases_2 (N : Nat) : ∀ (n : Nat) (σ : CS) (x1 : Int32) (x2 : Int32) (x3 : Int32), Kwd (pWd σ) (f_X0_addCases_2 N n σ x1 x2 x3)
  | 0, _, _, _, _ => kwd_none
  | n+1, σ, x1, x2, x3 => kWb_X0_addCases_2 N (f_X0_addCases_2 N n) (fun σ x1 x2 x3 => kW_X0_addCases_2 N n σ x1 x2 x3) σ x1 x2 x3
theorem kW_X0_addCases (N : Nat) (σ : CS) (x1 : Int32) (x2 : Int32) : Kwd (pWd σ) (f_X0_addCases N σ x1 x2) := by
  unfold f_X0_addCases
  exact (kW_X0_addCases_2 N N σ x1 x2 x1)
theorem kW_X9_stop (N : Nat) (σ : CS) : Kwd (pWd σ) (f_X9_stop N σ) := by
  unfold f_X9_stop
  exact (kwd_some (rfl))
theorem kW_X1_fail (N : Nat) (σ : CS) (x1 : Int32) (x2 : Int32) : Kwd (pWd σ) (f_X1_fail N σ x1 x2) := by
  unfold f_X1_fail
  exact (kwd_ite (kwd_bind (kW_X9_stop N (CS.setI (CS.setI σ 32 x1) 33 x2)) (fun p2 => (kwd_some (rfl)))) (kwd_some (rfl)))
theorem kW_X1_found (N : Nat) (σ : CS) (x1 : Int32) : Kwd (pWd σ) (f_X1_found N σ x1) := by
  unfold f_X1_found
  exact (kwd_ite (kwd_some (rfl)) (kwd_some (rfl)))
theorem kW_X1_misplaced (N : Nat) (σ : CS) : Kwd (pWd σ) (f_X1_misplaced N σ) := by
  unfold f_X1_misplaced
  exact (kwd_bind (kW_X1_found N σ 6) (fun p1 => (kwd_ite (kwd_bind (kW_X1_fail N p1.2 2 (p1.2.i 44)) (fun p6 => (kwd_some (rfl)))) (kwd_bind (kW_X1_fail N p1.2 1 (p1.2.i 44)) (fun p10 => (kwd_some (rfl)))))))
theorem kW_X9_byteAt_30 (N : Nat) (σ : CS) : Kwd (pWd σ) (f_X9_byteAt_30 N σ ) := by
  unfold f_X9_byteAt_30
  exact (kwd_some (rfl))
theorem kW_X9_byteAt (N : Nat) (σ : CS) (x1 : Int32) : Kwd (pWd σ) (f_X9_byteAt N σ x1) := by
  unfold f_X9_byteAt
  exact (kwd_ite (kW_X9_byteAt_30 N σ) (kwd_ite (kW_X9_byteAt_30 N σ) (kwd_ite (kW_X9_byteAt_30 N σ) (kwd_ite (kwd_some (rfl)) kwd_none))))
theorem kW_X9_isDigit_16 (N : Nat) (σ : CS) : Kwd (pWd σ) (f_X9_isDigit_16 N σ ) := by
  unfold f_X9_isDigit_16
  exact (kwd_some (rfl))
theorem kW_X9_isDigit (N : Nat) (σ : CS) (x0 : Int32) : Kwd (pWd σ) (f_X9_isDigit N σ x0) := by
  unfold f_X9_isDigit
  exact (kwd_ite (kW_X9_isDigit_16 N σ) (kwd_ite (kW_X9_isDigit_16 N σ) (kwd_some (rfl))))
theorem kW_X9_takeNumber_67 (N : Nat) (σ : CS) : Kwd (pWd σ) (f_X9_takeNumber_67 N σ ) := by
  unfold f_X9_takeNumber_67
  exact (kwd_ite (kwd_some (rfl)) (kwd_some (rfl)))
theorem kWb_X9_takeNumber_7 (N : Nat) (K : CS → Int32 → Option (Unit × CS)) (hMK : ∀ (σ : CS) (x1 : Int32), Kwd (pWd σ) (K σ x1)) (σ : CS) (x1 : Int32) : Kwd (pWd σ) (b_X9_takeNumber_7 N K σ x1) := by
  unfold b_X9_takeNumber_7
  exact (kwd_ite (kW_X9_takeNumber_67 N σ) (kwd_bind (kW_X9_byteAt N σ (σ.i 42)) (fun p3 => (kwd_bind (kW_X9_isDigit N p3.2 p3.1) (fun p7 => (kwd_ite (kW_X9_takeNumber_67 N p7.2) (kwd_bind (kW_X9_byteAt N p7.2 (p7.2.i 42)) (fun p12 => (hMK (CS.setI (CS.setI p12.2 45 ((((p7.2.i 45) * 10) + p12.1) - 48)) 42 ((p12.2.i 42) + 1)) (x1 + 1))))))))))
theorem kW_X9_takeNumber_7 (N : Nat) : ∀ (n : Nat) (σ : CS) (x1 : Int32), Kwd (pWd σ) (f_X9_takeNumber_7 N n σ x1)
  | 0, _, _ => kwd_none
  | n+1, σ, x1 => kWb_X9_takeNumber_7 N (f_X9_takeNumber_7 N n) (fun σ x1 => kW_X9_takeNumber_7 N n σ x1) σ x1
theorem kW_X9_takeNumber (N : Nat) (σ : CS) : Kwd (pWd σ) (f_X9_takeNumber N σ) := by
  unfold f_X9_takeNumber
  exact (kW_X9_takeNumber_7 N N (CS.setI σ 45 0) 0)
theorem kW_X9_isLetter_16 (N : Nat) (σ : CS) : Kwd (pWd σ) (f_X9_isLetter_16 N σ ) := by
  unfold f_X9_isLetter_16
  exact (kwd_some (rfl))
theorem kW_X9_isLetter (N : Nat) (σ : CS) (x0 : Int32) : Kwd (pWd σ) (f_X9_isLetter N σ x0) := by
  unfold f_X9_isLetter
  exact (kwd_ite (kW_X9_isLetter_16 N σ) (kwd_ite (kW_X9_isLetter_16 N σ) (kwd_some (rfl))))
theorem kW_X9_rowType_171 (N : Nat) (σ : CS) (x6 : Int64) : Kwd (pWd σ) (f_X9_rowType_171 N σ x6) := by
  unfold f_X9_rowType_171
  exact (kwd_ite (kwd_ite (kwd_some (rfl)) (kwd_some (rfl))) (kwd_ite (kwd_ite (kwd_some (rfl)) (kwd_ite (kwd_some (rfl)) (kwd_some (rfl)))) (kwd_some (rfl))))
theorem kW_X9_rowType_153 (N : Nat) (σ : CS) (x2 : Int64) (x4 : Int32) (x6 : Int64) : Kwd (pWd σ) (f_X9_rowType_153 N σ x2 x4 x6) := by
  unfold f_X9_rowType_153
  exact (kwd_ite (kW_X9_rowType_171 N (CS.setI σ 45 (((x2 : Int64).toInt32) + 10)) x6) (kW_X9_rowType_171 N (CS.setI σ 45 (((x2 : Int64).toInt32) + 0)) x6))
theorem kW_X9_rowType_129 (N : Nat) (σ : CS) (x2 : Int64) (x4 : Int32) : Kwd (pWd σ) (f_X9_rowType_129 N σ x2 x4) := by
  unfold f_X9_rowType_129
  exact (kwd_ite (kW_X9_rowType_153 N σ x2 x4 (σ.l >>> ((16 : Int32).toInt64 &&& 63))) (kW_X9_rowType_153 N σ x2 x4 (σ.l >>> ((8 : Int32).toInt64 &&& 63))))
theorem kW_X9_rowType_117 (N : Nat) (σ : CS) (x2 : Int64) (x4 : Int32) (x5 : Int32) : Kwd (pWd σ) (f_X9_rowType_117 N σ x2 x4 x5) := by
  unfold f_X9_rowType_117
  exact (kwd_ite (kwd_ite (kwd_some (rfl)) (kW_X9_rowType_129 N σ x2 x4)) (kW_X9_rowType_129 N σ x2 x4))
theorem kW_X9_rowType_114 (N : Nat) (σ : CS) (x2 : Int64) (x4 : Int32) : Kwd (pWd σ) (f_X9_rowType_114 N σ x2 x4) := by
  unfold f_X9_rowType_114
  exact (kW_X9_rowType_117 N σ x2 x4 0)
theorem kW_X9_rowType_73 (N : Nat) (σ : CS) (x1 : Int32) (x2 : Int64) (x4 : Int32) : Kwd (pWd σ) (f_X9_rowType_73 N σ x1 x2 x4) := by
  unfold f_X9_rowType_73
  exact (kwd_ite (kwd_ite (kW_X9_rowType_114 N σ x2 x4) (kwd_ite (kW_X9_rowType_114 N σ x2 x4) (kwd_ite (kW_X9_rowType_117 N σ x2 x4 1) (kW_X9_rowType_114 N σ x2 x4)))) (kW_X9_rowType_114 N σ x2 x4))
theorem kW_X9_rowType_70 (N : Nat) (σ : CS) (x1 : Int32) (x2 : Int64) : Kwd (pWd σ) (f_X9_rowType_70 N σ x1 x2) := by
  unfold f_X9_rowType_70
  exact (kW_X9_rowType_73 N σ x1 x2 0)
theorem kWb_X9_rowType_2 (N : Nat) (K : CS → Int32 → Int32 → Option (Int32 × CS)) (hMK : ∀ (σ : CS) (x1 : Int32) (x2 : Int32), Kwd (pWd σ) (K σ x1 x2)) (σ : CS) (x1 : Int32) (x2 : Int32) : Kwd (pWd σ) (b_X9_rowType_2 N K σ x1 x2) := by
  unfold b_X9_rowType_2
  exact (kwd_ite (kwd_ite (kwd_ite (kW_X9_rowType_70 N σ x1 ((σ.l &&& 255) - 48)) (kwd_ite (kW_X9_rowType_70 N σ x1 ((σ.l &&& 255) - 48)) (kW_X9_rowType_73 N σ x1 ((σ.l &&& 255) - 48) 1))) (kW_X9_rowType_70 N σ x1 ((σ.l &&& 255) - 48))) (kwd_ite (kwd_ite (kwd_some (rfl)) (hMK σ x1 (x2 + 1))) kwd_none))
theorem kW_X9_rowType_2 (N : Nat) : ∀ (n : Nat) (σ : CS) (x1 : Int32) (x2 : Int32), Kwd (pWd σ) (f_X9_rowType_2 N n σ x1 x2)
  | 0, _, _, _ => kwd_none
  | n+1, σ, x1, x2 => kWb_X9_rowType_2 N (f_X9_rowType_2 N n) (fun σ x1 x2 => kW_X9_rowType_2 N n σ x1 x2) σ x1 x2
theorem kW_X9_rowType (N : Nat) (σ : CS) (x1 : Int32) : Kwd (pWd σ) (f_X9_rowType N σ x1) := by
  unfold f_X9_rowType
  exact (kW_X9_rowType_2 N N σ x1 0)
theorem kW_X9_takeRow_79 (N : Nat) (σ : CS) : Kwd (pWd σ) (f_X9_takeRow_79 N σ ) := by
  unfold f_X9_takeRow_79
  exact (kwd_ite (kwd_bind (kW_X9_rowType N σ ((σ.i 42) - (σ.i 44))) (fun p3 => (kwd_some (rfl)))) (kwd_some (rfl)))
theorem kWb_X9_takeRow_7 (N : Nat) (K : CS → Int32 → Option (Unit × CS)) (hMK : ∀ (σ : CS) (x1 : Int32), Kwd (pWd σ) (K σ x1)) (σ : CS) (x1 : Int32) : Kwd (pWd σ) (b_X9_takeRow_7 N K σ x1) := by
  unfold b_X9_takeRow_7
  exact (kwd_ite (kW_X9_takeRow_79 N σ) (kwd_bind (kW_X9_byteAt N σ (σ.i 42)) (fun p7 => (kwd_bind (kW_X9_isDigit N p7.2 p7.1) (fun p11 => (kwd_ite (kwd_bind (kW_X9_byteAt N p11.2 (p11.2.i 42)) (fun p20 => (kwd_bind (kW_X9_isLetter N p20.2 p20.1) (fun p24 => (kwd_ite (kW_X9_takeRow_79 N p24.2) (kwd_bind (kW_X9_byteAt N p24.2 (p24.2.i 42)) (fun p29 => (hMK (CS.setI (CS.setL p29.2 ((p24.2.l <<< ((8 : Int32).toInt64 &&& 63)) ||| (p29.1 : Int32).toInt64)) 42 ((p29.2.i 42) + 1)) (x1 + 1))))))))) (kwd_bind (kW_X9_byteAt N p11.2 (p11.2.i 42)) (fun p16 => (hMK (CS.setI (CS.setL p16.2 ((p11.2.l <<< ((8 : Int32).toInt64 &&& 63)) ||| (p16.1 : Int32).toInt64)) 42 ((p16.2.i 42) + 1)) (x1 + 1))))))))))
theorem kW_X9_takeRow_7 (N : Nat) : ∀ (n : Nat) (σ : CS) (x1 : Int32), Kwd (pWd σ) (f_X9_takeRow_7 N n σ x1)
  | 0, _, _ => kwd_none
  | n+1, σ, x1 => kWb_X9_takeRow_7 N (f_X9_takeRow_7 N n) (fun σ x1 => kW_X9_takeRow_7 N n σ x1) σ x1
theorem kW_X9_takeRow (N : Nat) (σ : CS) : Kwd (pWd σ) (f_X9_takeRow N σ) := by
  unfold f_X9_takeRow
  exact (kW_X9_takeRow_7 N N (CS.setL σ 0) 0)
theorem kW_X9_longSign_73 (N : Nat) (σ : CS) (x0 : Int32) (x1 : Int32) : Kwd (pWd σ) (f_X9_longSign_73 N σ x0 x1) := by
  unfold f_X9_longSign_73
  exact (kwd_ite (kwd_ite (kwd_some (rfl)) (kwd_ite (kwd_some (rfl)) (kwd_ite (kwd_some (rfl)) (kwd_some (rfl))))) (kwd_some (rfl)))
theorem kW_X9_longSign (N : Nat) (σ : CS) (x0 : Int32) (x1 : Int32) : Kwd (pWd σ) (f_X9_longSign N σ x0 x1) := by
  unfold f_X9_longSign
  exact (kwd_ite (kwd_ite (kwd_some (rfl)) (kwd_ite (kwd_some (rfl)) (kwd_ite (kwd_some (rfl)) (kwd_ite (kwd_some (rfl)) (kwd_some (rfl)))))) (kwd_ite (kwd_ite (kwd_some (rfl)) (kW_X9_longSign_73 N σ x0 x1)) (kW_X9_longSign_73 N σ x0 x1)))
theorem kW_X9_isSign (N : Nat) (σ : CS) (x0 : Int32) : Kwd (pWd σ) (f_X9_isSign N σ x0) := by
  unfold f_X9_isSign
  exact (kwd_ite (kwd_some (rfl)) (kwd_ite (kwd_some (rfl)) (kwd_ite (kwd_some (rfl)) (kwd_ite (kwd_some (rfl)) (kwd_ite (kwd_some (rfl)) (kwd_ite (kwd_some (rfl)) (kwd_ite (kwd_some (rfl)) (kwd_ite (kwd_some (rfl)) (kwd_ite (kwd_some (rfl)) (kwd_ite (kwd_some (rfl)) (kwd_ite (kwd_some (rfl)) (kwd_ite (kwd_some (rfl)) (kwd_ite (kwd_some (rfl)) (kwd_ite (kwd_some (rfl)) (kwd_ite (kwd_some (rfl)) (kwd_ite (kwd_some (rfl)) (kwd_ite (kwd_some (rfl)) (kwd_ite (kwd_some (rfl)) (kwd_ite (kwd_some (rfl)) (kwd_some (rfl)))))))))))))))))))))
theorem kW_X9_takeSign (N : Nat) (σ : CS) : Kwd (pWd σ) (f_X9_takeSign N σ) := by
  unfold f_X9_takeSign
  exact (kwd_bind (kW_X9_byteAt N σ (σ.i 42)) (fun p1 => (kwd_bind (kW_X9_byteAt N p1.2 ((p1.2.i 42) + 1)) (fun p5 => (kwd_bind (kW_X9_longSign N p5.2 p1.1 p5.1) (fun p9 => (kwd_ite (kwd_bind (kW_X9_isSign N (CS.setI (CS.setI p9.2 43 p9.1) 42 ((p9.2.i 42) + 1)) p1.1) (fun p14 => (kwd_ite (kwd_some (rfl)) (kwd_some (rfl))))) (kwd_some (rfl)))))))))
theorem kW_X9_advance_51 (N : Nat) (σ : CS) : Kwd (pWd σ) (f_X9_advance_51 N σ ) := by
  unfold f_X9_advance_51
  exact (kwd_ite (kwd_bind (kW_X9_byteAt N (CS.setI σ 44 (σ.i 42)) (σ.i 42)) (fun p3 => (kwd_bind (kW_X9_isDigit N p3.2 p3.1) (fun p7 => (kwd_ite (kwd_bind (kW_X9_byteAt N p7.2 (p7.2.i 42)) (fun p12 => (kwd_bind (kW_X9_isLetter N p12.2 p12.1) (fun p16 => (kwd_ite (kwd_bind (kW_X9_takeSign N p16.2) (fun p21 => (kwd_some (rfl)))) (kwd_bind (kW_X9_takeRow N p16.2) (fun p25 => (kwd_some (rfl))))))))) (kwd_bind (kW_X9_takeNumber N p7.2) (fun p29 => (kwd_some (rfl))))))))) (kwd_some (rfl)))
theorem kWb_X9_advance_2 (N : Nat) (K : CS → Int32 → Option (Unit × CS)) (hMK : ∀ (σ : CS) (x1 : Int32), Kwd (pWd σ) (K σ x1)) (σ : CS) (x1 : Int32) : Kwd (pWd σ) (b_X9_advance_2 N K σ x1) := by
  unfold b_X9_advance_2
  exact (kwd_ite (kW_X9_advance_51 N σ) (kwd_bind (kW_X9_byteAt N σ (σ.i 42)) (fun p33 => (kwd_ite (hMK (CS.setI p33.2 42 ((p33.2.i 42) + 1)) (x1 + 1)) (kwd_bind (kW_X9_byteAt N p33.2 (p33.2.i 42)) (fun p38 => (kwd_ite (hMK (CS.setI p38.2 42 ((p38.2.i 42) + 1)) (x1 + 1)) (kW_X9_advance_51 N p38.2))))))))
theorem kW_X9_advance_2 (N : Nat) : ∀ (n : Nat) (σ : CS) (x1 : Int32), Kwd (pWd σ) (f_X9_advance_2 N n σ x1)
  | 0, _, _ => kwd_none
  | n+1, σ, x1 => kWb_X9_advance_2 N (f_X9_advance_2 N n) (fun σ x1 => kW_X9_advance_2 N n σ x1) σ x1
theorem kW_X9_advance (N : Nat) (σ : CS) : Kwd (pWd σ) (f_X9_advance N σ) := by
  unfold f_X9_advance
  exact (kW_X9_advance_2 N N σ 0)
theorem kW_X1_skip_17 (N : Nat) (σ : CS) (x2 : Int32) : Kwd (pWd σ) (f_X1_skip_17 N σ x2) := by
  unfold f_X1_skip_17
  exact (kwd_ite (kwd_some (rfl)) kwd_none)
theorem kW_X1_skip (N : Nat) (σ : CS) (x1 : Int32) : Kwd (pWd σ) (f_X1_skip N σ x1) := by
  unfold f_X1_skip
  exact (kwd_bind (kW_X1_found N σ x1) (fun p1 => (kwd_ite (kW_X1_skip_17 N p1.2 p1.1) (kwd_bind (kW_X9_advance N p1.2) (fun p7 => (kW_X1_skip_17 N p7.2 p1.1))))))
theorem kW_X1_expect (N : Nat) (σ : CS) (x1 : Int32) : Kwd (pWd σ) (f_X1_expect N σ x1) := by
  unfold f_X1_expect
  exact (kwd_bind (kW_X1_found N σ x1) (fun p1 => (kwd_ite (kwd_bind (kW_X1_misplaced N p1.2) (fun p6 => (kwd_some (rfl)))) (kwd_bind (kW_X9_advance N p1.2) (fun p10 => (kwd_some (rfl)))))))
theorem kW_X1_open (N : Nat) (σ : CS) (x1 : Int32) : Kwd (pWd σ) (f_X1_open N σ x1) := by
  unfold f_X1_open
  exact (kwd_bind (kW_X1_found N σ x1) (fun p1 => (kwd_ite (kwd_bind (kW_X1_misplaced N p1.2) (fun p15 => (kwd_some (rfl)))) (kwd_ite (kwd_bind (kW_X9_advance N (CS.setI p1.2 34 ((p1.2.i 34) + 1))) (fun p7 => (kwd_some (rfl)))) (kwd_bind (kW_X1_fail N p1.2 6 (p1.2.i 44)) (fun p11 => (kwd_some (rfl))))))))
theorem kW_X1_close_22 (N : Nat) (σ : CS) : Kwd (pWd σ) (f_X1_close_22 N σ ) := by
  unfold f_X1_close_22
  exact (kwd_some (rfl))
theorem kW_X1_close (N : Nat) (σ : CS) (x1 : Int32) : Kwd (pWd σ) (f_X1_close N σ x1) := by
  unfold f_X1_close
  exact (kwd_bind (kW_X1_found N σ x1) (fun p1 => (kwd_ite (kwd_bind (kW_X1_misplaced N p1.2) (fun p6 => (kW_X1_close_22 N p6.2))) (kwd_bind (kW_X9_advance N p1.2) (fun p10 => (kW_X1_close_22 N p10.2))))))
theorem kWb_X1_product_6 (N : Nat) (E1 : CS → Option (Unit × CS)) (E2 : CS → Option (Int32 × CS)) (hm1 : ∀ σ, Kwd (pWd σ) (E1 σ)) (hm2 : ∀ σ, Kwd (pWd σ) (E2 σ)) (K : CS → Int32 → Option (Unit × CS)) (hMK : ∀ (σ : CS) (x1 : Int32), Kwd (pWd σ) (K σ x1)) (σ : CS) (x1 : Int32) : Kwd (pWd σ) (b_X1_product_6 N E1 E2 K σ x1) := by
  unfold b_X1_product_6
  exact (kwd_ite (kwd_some (rfl)) (kwd_bind (kW_X1_found N σ 42) (fun p6 => (kwd_ite (kwd_bind (kW_X1_found N p6.2 47) (fun p57 => (kwd_ite (kwd_bind (kW_X1_found N p57.2 37) (fun p108 => (kwd_ite (kwd_some (rfl)) (kwd_bind (kW_X1_found N p108.2 42) (fun p113 => (kwd_ite (kwd_bind (kW_X1_found N p113.2 47) (fun p118 => (kwd_ite (kwd_bind (kW_X9_advance N p118.2) (fun p123 => (kwd_bind (hm1 p123.2) (fun p127 => (kwd_bind (kW_X0_add N p127.2 11 0) (fun p131 => (hMK p131.2 (x1 + 1)))))))) (kwd_bind (kW_X9_advance N p118.2) (fun p135 => (kwd_bind (hm1 p135.2) (fun p139 => (kwd_bind (kW_X0_add N p139.2 10 0) (fun p143 => (hMK p143.2 (x1 + 1))))))))))) (kwd_bind (kW_X9_advance N p113.2) (fun p147 => (kwd_bind (hm1 p147.2) (fun p151 => (kwd_bind (kW_X0_add N p151.2 9 0) (fun p155 => (hMK p155.2 (x1 + 1)))))))))))))) (kwd_bind (kW_X1_found N p57.2 42) (fun p62 => (kwd_ite (kwd_bind (kW_X1_found N p62.2 47) (fun p67 => (kwd_ite (kwd_bind (kW_X9_advance N p67.2) (fun p72 => (kwd_bind (hm1 p72.2) (fun p76 => (kwd_bind (kW_X0_add N p76.2 11 0) (fun p80 => (hMK p80.2 (x1 + 1)))))))) (kwd_bind (kW_X9_advance N p67.2) (fun p84 => (kwd_bind (hm1 p84.2) (fun p88 => (kwd_bind (kW_X0_add N p88.2 10 0) (fun p92 => (hMK p92.2 (x1 + 1))))))))))) (kwd_bind (kW_X9_advance N p62.2) (fun p96 => (kwd_bind (hm1 p96.2) (fun p100 => (kwd_bind (kW_X0_add N p100.2 9 0) (fun p104 => (hMK p104.2 (x1 + 1)))))))))))))) (kwd_bind (kW_X1_found N p6.2 42) (fun p11 => (kwd_ite (kwd_bind (kW_X1_found N p11.2 47) (fun p16 => (kwd_ite (kwd_bind (kW_X9_advance N p16.2) (fun p21 => (kwd_bind (hm1 p21.2) (fun p25 => (kwd_bind (kW_X0_add N p25.2 11 0) (fun p29 => (hMK p29.2 (x1 + 1)))))))) (kwd_bind (kW_X9_advance N p16.2) (fun p33 => (kwd_bind (hm1 p33.2) (fun p37 => (kwd_bind (kW_X0_add N p37.2 10 0) (fun p41 => (hMK p41.2 (x1 + 1))))))))))) (kwd_bind (kW_X9_advance N p11.2) (fun p45 => (kwd_bind (hm1 p45.2) (fun p49 => (kwd_bind (kW_X0_add N p49.2 9 0) (fun p53 => (hMK p53.2 (x1 + 1)))))))))))))))
theorem kW_X1_product_6 (N : Nat) (E1 : CS → Option (Unit × CS)) (E2 : CS → Option (Int32 × CS)) (hm1 : ∀ σ, Kwd (pWd σ) (E1 σ)) (hm2 : ∀ σ, Kwd (pWd σ) (E2 σ)) : ∀ (n : Nat) (σ : CS) (x1 : Int32), Kwd (pWd σ) (f_X1_product_6 N E1 E2 n σ x1)
  | 0, _, _ => kwd_none
  | n+1, σ, x1 => kWb_X1_product_6 N E1 E2 hm1 hm2 (f_X1_product_6 N E1 E2 n) (fun σ x1 => kW_X1_product_6 N E1 E2 hm1 hm2 n σ x1) σ x1
theorem kW_X1_product (N : Nat) (E1 : CS → Option (Unit × CS)) (E2 : CS → Option (Int32 × CS)) (hm1 : ∀ σ, Kwd (pWd σ) (E1 σ)) (hm2 : ∀ σ, Kwd (pWd σ) (E2 σ)) (σ : CS) : Kwd (pWd σ) (f_X1_product N E1 E2 σ) := by
  unfold f_X1_product
  exact (kwd_bind (hm1 σ) (fun p1 => (kW_X1_product_6 N E1 E2 hm1 hm2 N p1.2 0)))
theorem kWb_X1_expression_6 (N : Nat) (E1 : CS → Option (Unit × CS)) (E2 : CS → Option (Int32 × CS)) (hm1 : ∀ σ, Kwd (pWd σ) (E1 σ)) (hm2 : ∀ σ, Kwd (pWd σ) (E2 σ)) (K : CS → Int32 → Option (Unit × CS)) (hMK : ∀ (σ : CS) (x1 : Int32), Kwd (pWd σ) (K σ x1)) (σ : CS) (x1 : Int32) : Kwd (pWd σ) (b_X1_expression_6 N E1 E2 K σ x1) := by
  unfold b_X1_expression_6
  exact (kwd_ite (kwd_some (rfl)) (kwd_bind (kW_X1_found N σ 43) (fun p6 => (kwd_ite (kwd_bind (kW_X1_found N p6.2 45) (fun p40 => (kwd_ite (kwd_some (rfl)) (kwd_bind (kW_X1_found N p40.2 43) (fun p45 => (kwd_ite (kwd_bind (kW_X9_advance N p45.2) (fun p50 => (kwd_bind (kW_X1_product N E1 E2 hm1 hm2 p50.2) (fun p54 => (kwd_bind (kW_X0_add N p54.2 8 0) (fun p58 => (hMK p58.2 (x1 + 1)))))))) (kwd_bind (kW_X9_advance N p45.2) (fun p62 => (kwd_bind (kW_X1_product N E1 E2 hm1 hm2 p62.2) (fun p66 => (kwd_bind (kW_X0_add N p66.2 7 0) (fun p70 => (hMK p70.2 (x1 + 1)))))))))))))) (kwd_bind (kW_X1_found N p6.2 43) (fun p11 => (kwd_ite (kwd_bind (kW_X9_advance N p11.2) (fun p16 => (kwd_bind (kW_X1_product N E1 E2 hm1 hm2 p16.2) (fun p20 => (kwd_bind (kW_X0_add N p20.2 8 0) (fun p24 => (hMK p24.2 (x1 + 1)))))))) (kwd_bind (kW_X9_advance N p11.2) (fun p28 => (kwd_bind (kW_X1_product N E1 E2 hm1 hm2 p28.2) (fun p32 => (kwd_bind (kW_X0_add N p32.2 7 0) (fun p36 => (hMK p36.2 (x1 + 1)))))))))))))))
theorem kW_X1_expression_6 (N : Nat) (E1 : CS → Option (Unit × CS)) (E2 : CS → Option (Int32 × CS)) (hm1 : ∀ σ, Kwd (pWd σ) (E1 σ)) (hm2 : ∀ σ, Kwd (pWd σ) (E2 σ)) : ∀ (n : Nat) (σ : CS) (x1 : Int32), Kwd (pWd σ) (f_X1_expression_6 N E1 E2 n σ x1)
  | 0, _, _ => kwd_none
  | n+1, σ, x1 => kWb_X1_expression_6 N E1 E2 hm1 hm2 (f_X1_expression_6 N E1 E2 n) (fun σ x1 => kW_X1_expression_6 N E1 E2 hm1 hm2 n σ x1) σ x1
theorem kW_X1_expression (N : Nat) (E1 : CS → Option (Unit × CS)) (E2 : CS → Option (Int32 × CS)) (hm1 : ∀ σ, Kwd (pWd σ) (E1 σ)) (hm2 : ∀ σ, Kwd (pWd σ) (E2 σ)) (σ : CS) : Kwd (pWd σ) (f_X1_expression N E1 E2 σ) := by
  unfold f_X1_expression
  exact (kwd_bind (kW_X1_product N E1 E2 hm1 hm2 σ) (fun p1 => (kW_X1_expression_6 N E1 E2 hm1 hm2 N p1.2 0)))
theorem kW_X4_find_38 (N : Nat) (σ : CS) : Kwd (pWd σ) (f_X4_find_38 N σ ) := by
  unfold f_X4_find_38
  exact (kwd_some (rfl))
theorem kWb_X4_find_2 (N : Nat) (K : CS → Int64 → Int32 → Option (Int32 × CS)) (hMK : ∀ (σ : CS) (x1 : Int64) (x3 : Int32), Kwd (pWd σ) (K σ x1 x3)) (σ : CS) (x1 : Int64) (x3 : Int32) : Kwd (pWd σ) (b_X4_find_2 N K σ x1 x3) := by
  unfold b_X4_find_2
  exact (kwd_ite (kW_X4_find_38 N σ) (kwd_ite (kW_X4_find_38 N σ) (kwd_ite (kwd_ite (kwd_some (rfl)) (hMK σ x1 (x3 + 1))) kwd_none)))
theorem kW_X4_find_2 (N : Nat) : ∀ (n : Nat) (σ : CS) (x1 : Int64) (x3 : Int32), Kwd (pWd σ) (f_X4_find_2 N n σ x1 x3)
  | 0, _, _, _ => kwd_none
  | n+1, σ, x1, x3 => kWb_X4_find_2 N (f_X4_find_2 N n) (fun σ x1 x3 => kW_X4_find_2 N n σ x1 x3) σ x1 x3
theorem kW_X4_find (N : Nat) (σ : CS) (x1 : Int64) : Kwd (pWd σ) (f_X4_find N σ x1) := by
  unfold f_X4_find
  exact (kW_X4_find_2 N N σ x1 0)
theorem kW_X4_cellOf (N : Nat) (σ : CS) (x1 : Int32) : Kwd (pWd σ) (f_X4_cellOf N σ x1) := by
  unfold f_X4_cellOf
  exact (kwd_some (rfl))
theorem kW_X1_loadName (N : Nat) (σ : CS) : Kwd (pWd σ) (f_X1_loadName N σ) := by
  unfold f_X1_loadName
  exact (kwd_bind (kW_X4_find N σ σ.l) (fun p1 => (kwd_ite (kwd_bind (kW_X4_cellOf N p1.2 p1.1) (fun p6 => (kwd_bind (kW_X0_add N p6.2 1 p6.1) (fun p10 => (kwd_bind (kW_X9_advance N p10.2) (fun p14 => (kwd_some (rfl)))))))) (kwd_bind (kW_X1_fail N p1.2 3 (p1.2.i 44)) (fun p18 => (kwd_some (rfl)))))))
theorem kW_X1_negated_17 (N : Nat) (E1 : CS → Option (Unit × CS)) (E2 : CS → Option (Int32 × CS)) (hm1 : ∀ σ, Kwd (pWd σ) (E1 σ)) (hm2 : ∀ σ, Kwd (pWd σ) (E2 σ)) (σ : CS) : Kwd (pWd σ) (f_X1_negated_17 N E1 E2 σ ) := by
  unfold f_X1_negated_17
  exact (kwd_bind (kW_X0_add N (CS.setI σ 34 ((σ.i 34) - 1)) 4 0) (fun p6 => (kwd_some (rfl))))
theorem kW_X1_negated (N : Nat) (E1 : CS → Option (Unit × CS)) (E2 : CS → Option (Int32 × CS)) (hm1 : ∀ σ, Kwd (pWd σ) (E1 σ)) (hm2 : ∀ σ, Kwd (pWd σ) (E2 σ)) (σ : CS) : Kwd (pWd σ) (f_X1_negated N E1 E2 σ) := by
  unfold f_X1_negated
  exact (kwd_bind (kW_X1_open N σ 45) (fun p1 => (kwd_ite (kwd_bind (hm1 p1.2) (fun p10 => (kW_X1_negated_17 N E1 E2 hm1 hm2 p10.2))) (kW_X1_negated_17 N E1 E2 hm1 hm2 p1.2))))
theorem kW_X1_caseNumber_44 (N : Nat) (σ : CS) (x1 : Int32) (x2 : Int32) (x4 : Int32) : Kwd (pWd σ) (f_X1_caseNumber_44 N σ x1 x2 x4) := by
  unfold f_X1_caseNumber_44
  exact (kwd_bind (kW_X0_hasCase N σ x1 x4) (fun p11 => (kwd_ite (kwd_bind (kW_X0_addCase N p11.2 x4 x2) (fun p16 => (kwd_bind (kW_X9_advance N p16.2) (fun p20 => (kwd_some (rfl)))))) (kwd_bind (kW_X1_fail N p11.2 4 (p11.2.i 44)) (fun p24 => (kwd_some (rfl)))))))
theorem kW_X1_caseNumber (N : Nat) (σ : CS) (x1 : Int32) (x2 : Int32) : Kwd (pWd σ) (f_X1_caseNumber N σ x1 x2) := by
  unfold f_X1_caseNumber
  exact (kwd_bind (kW_X1_skip N σ 45) (fun p1 => (kwd_bind (kW_X1_found N p1.2 1) (fun p5 => (kwd_ite (kwd_bind (kW_X1_misplaced N p5.2) (fun p28 => (kwd_some (rfl)))) (kwd_ite (kW_X1_caseNumber_44 N p5.2 x1 x2 (p5.2.i 45)) (kW_X1_caseNumber_44 N p5.2 x1 x2 (-(p5.2.i 45)))))))))
theorem kW_X5_init (N : Nat) (σ : CS) (x0 : Nat) : Kwd (pWd σ) (f_X5_init N σ x0) := by
  unfold f_X5_init
  exact (kwd_some (rfl))
theorem kW_X6_push_48 (N : Nat) (σ : CS) (x1 : Int32) (x2 : Int32) (x3 : Int32) (x4 : Int32) (x5 : Nat) : Kwd (pWd σ) (f_X6_push_48 N σ x1 x2 x3 x4 x5) := by
  unfold f_X6_push_48
  exact (kwd_ite (kwd_some (rfl)) kwd_none)
theorem kW_X6_push (N : Nat) (σ : CS) (x1 : Int32) (x2 : Int32) (x3 : Int32) : Kwd (pWd σ) (f_X6_push N σ x1 x2 x3) := by
  unfold f_X6_push
  exact (kwd_ite (kwd_oc (kwd_le (rfl) (kwd_bind (kW_X5_init N (CS.new σ 0) (CS.hs σ)) (fun p5 => (kwd_ite (kwd_ite (kW_X6_push_48 N (CS.setR p5.2 51 (((if (399 : Int32) < (σ.i 53) then (399 : Int32) else (σ.i 53)) : Int32).toNatClampNeg) (some (CS.hs σ))) x1 x2 x3 (if (399 : Int32) < (σ.i 53) then (399 : Int32) else (σ.i 53)) (CS.hs σ)) kwd_none) kwd_none)))) (fun a3 => (kW_X6_push_48 N σ x1 x2 x3 (if (399 : Int32) < (σ.i 53) then (399 : Int32) else (σ.i 53)) a3))) kwd_none)
theorem kW_X6_row_30 (N : Nat) (σ : CS) : Kwd (pWd σ) (f_X6_row_30 N σ ) := by
  unfold f_X6_row_30
  exact (kwd_some (rfl))
theorem kW_X6_row (N : Nat) (σ : CS) (x1 : Int32) : Kwd (pWd σ) (f_X6_row N σ x1) := by
  unfold f_X6_row
  exact (kwd_ite (kW_X6_row_30 N σ) (kwd_ite (kW_X6_row_30 N σ) (kwd_ite (kW_X6_row_30 N σ) (kwd_ite (kwd_oc (kwd_some (rfl)) (fun a6 => (kwd_some (rfl)))) kwd_none))))
theorem kW_X5_isLoop_40 (N : Nat) (σ : CS) : Kwd (pWd σ) (f_X5_isLoop_40 N σ ) := by
  unfold f_X5_isLoop_40
  exact (kwd_some (rfl))
theorem kW_X5_isLoop (N : Nat) (σ : CS) (x0 : Nat) : Kwd (pWd σ) (f_X5_isLoop N σ x0) := by
  unfold f_X5_isLoop
  exact (kwd_ite (kwd_ite (kW_X5_isLoop_40 N σ) (kwd_ite (kW_X5_isLoop_40 N σ) (kwd_ite (kW_X5_isLoop_40 N σ) (kwd_ite (kW_X5_isLoop_40 N σ) (kwd_some (rfl)))))) kwd_none)
theorem kW_X5_hasOneBody_37 (N : Nat) (σ : CS) : Kwd (pWd σ) (f_X5_hasOneBody_37 N σ ) := by
  unfold f_X5_hasOneBody_37
  exact (kwd_some (rfl))
theorem kW_X5_hasOneBody (N : Nat) (σ : CS) (x0 : Nat) : Kwd (pWd σ) (f_X5_hasOneBody N σ x0) := by
  unfold f_X5_hasOneBody
  exact (kwd_ite (kwd_bind (kW_X5_isLoop N σ x0) (fun p3 => (kwd_ite (kwd_ite (kwd_ite (kW_X5_hasOneBody_37 N p3.2) (kwd_ite (kW_X5_hasOneBody_37 N p3.2) (kwd_ite (kW_X5_hasOneBody_37 N p3.2) (kwd_some (rfl))))) kwd_none) (kW_X5_hasOneBody_37 N p3.2)))) kwd_none)
theorem kW_X6_pop (N : Nat) (σ : CS) : Kwd (pWd σ) (f_X6_pop N σ) := by
  unfold f_X6_pop
  exact (kwd_some (rfl))
theorem kW_X7_endIf (N : Nat) (σ : CS) (x1 : Nat) : Kwd (pWd σ) (f_X7_endIf N σ x1) := by
  unfold f_X7_endIf
  exact (kwd_bind (kW_X1_skip N σ 204) (fun p1 => (kwd_ite (kwd_ite (kwd_bind (kW_X0_aim N p1.2 (CS.o p1.2 x1 10)) (fun p23 => (kwd_bind (kW_X6_pop N (CS.setI p23.2 36 1)) (fun p27 => (kwd_some (rfl)))))) kwd_none) (kwd_ite (kwd_ite (kwd_bind (kW_X0_newTarget N (CS.setO (CS.setO (CS.setO p1.2 x1 0 204) x1 5 0) x1 6 (p1.2.i 36))) (fun p8 => (kwd_ite (kwd_bind (kW_X0_add N (CS.setO p8.2 x1 9 p8.1) 30 (CS.o (CS.setO p8.2 x1 9 p8.1) x1 9)) (fun p13 => (kwd_ite (kwd_bind (kW_X0_aim N p13.2 (CS.o p13.2 x1 10)) (fun p18 => (kwd_some (rfl)))) kwd_none))) kwd_none))) kwd_none) kwd_none))))
theorem kW_X6_jumpTo (N : Nat) (σ : CS) (x0 : Nat) (x1 : Int32) : Kwd (pWd σ) (f_X6_jumpTo N σ x0 x1) := by
  unfold f_X6_jumpTo
  exact (kwd_ite (kwd_ite (kwd_some (rfl)) (kwd_some (rfl))) kwd_none)
theorem kWb_X6_isGoneTo_5 (N : Nat) (K : CS → Nat → Int32 → Int32 → Option (Int32 × CS)) (hMK : ∀ (σ : CS) (x1 : Nat) (x2 : Int32) (x3 : Int32), Kwd (pWd σ) (K σ x1 x2 x3)) (σ : CS) (x1 : Nat) (x2 : Int32) (x3 : Int32) : Kwd (pWd σ) (b_X6_isGoneTo_5 N K σ x1 x2 x3) := by
  unfold b_X6_isGoneTo_5
  exact (kwd_ite (kwd_some (rfl)) (kwd_bind (kW_X6_jumpTo N σ x1 x2) (fun p4 => (kwd_ite (kwd_some (rfl)) (hMK p4.2 x1 x2 (x3 + 1))))))
theorem kW_X6_isGoneTo_5 (N : Nat) : ∀ (n : Nat) (σ : CS) (x1 : Nat) (x2 : Int32) (x3 : Int32), Kwd (pWd σ) (f_X6_isGoneTo_5 N n σ x1 x2 x3)
  | 0, _, _, _, _ => kwd_none
  | n+1, σ, x1, x2, x3 => kWb_X6_isGoneTo_5 N (f_X6_isGoneTo_5 N n) (fun σ x1 x2 x3 => kW_X6_isGoneTo_5 N n σ x1 x2 x3) σ x1 x2 x3
theorem kW_X6_isGoneTo (N : Nat) (σ : CS) (x1 : Nat) (x2 : Int32) : Kwd (pWd σ) (f_X6_isGoneTo N σ x1 x2) := by
  unfold f_X6_isGoneTo
  exact (kwd_ite (kW_X6_isGoneTo_5 N N σ x1 x2 (CS.o σ x1 14)) kwd_none)
theorem kW_X1_conjunction_65 (N : Nat) (E1 : CS → Option (Unit × CS)) (E2 : CS → Option (Int32 × CS)) (hm1 : ∀ σ, Kwd (pWd σ) (E1 σ)) (hm2 : ∀ σ, Kwd (pWd σ) (E2 σ)) (σ : CS) (x2 : Int32) : Kwd (pWd σ) (f_X1_conjunction_65 N E1 E2 σ x2) := by
  unfold f_X1_conjunction_65
  exact (kwd_bind (kW_X0_aim N σ x2) (fun p15 => (kwd_some (rfl))))
theorem kWb_X1_conjunction_27 (N : Nat) (E1 : CS → Option (Unit × CS)) (E2 : CS → Option (Int32 × CS)) (hm1 : ∀ σ, Kwd (pWd σ) (E1 σ)) (hm2 : ∀ σ, Kwd (pWd σ) (E2 σ)) (K : CS → Int32 → Int32 → Option (Int32 × CS)) (hMK : ∀ (σ : CS) (x2 : Int32) (x3 : Int32), Kwd (pWd σ) (K σ x2 x3)) (σ : CS) (x2 : Int32) (x3 : Int32) : Kwd (pWd σ) (b_X1_conjunction_27 N E1 E2 K σ x2 x3) := by
  unfold b_X1_conjunction_27
  exact (kwd_ite (kW_X1_conjunction_65 N E1 E2 hm1 hm2 σ x2) (kwd_bind (kW_X1_skip N σ 132) (fun p19 => (kwd_ite (kW_X1_conjunction_65 N E1 E2 hm1 hm2 p19.2 x2) (kwd_bind (kW_X0_add N p19.2 32 x2) (fun p24 => (kwd_bind (hm2 p24.2) (fun p28 => (hMK p28.2 x2 (x3 + 1))))))))))
theorem kW_X1_conjunction_27 (N : Nat) (E1 : CS → Option (Unit × CS)) (E2 : CS → Option (Int32 × CS)) (hm1 : ∀ σ, Kwd (pWd σ) (E1 σ)) (hm2 : ∀ σ, Kwd (pWd σ) (E2 σ)) : ∀ (n : Nat) (σ : CS) (x2 : Int32) (x3 : Int32), Kwd (pWd σ) (f_X1_conjunction_27 N E1 E2 n σ x2 x3)
  | 0, _, _, _ => kwd_none
  | n+1, σ, x2, x3 => kWb_X1_conjunction_27 N E1 E2 hm1 hm2 (f_X1_conjunction_27 N E1 E2 n) (fun σ x2 x3 => kW_X1_conjunction_27 N E1 E2 hm1 hm2 n σ x2 x3) σ x2 x3
theorem kW_X1_conjunction (N : Nat) (E1 : CS → Option (Unit × CS)) (E2 : CS → Option (Int32 × CS)) (hm1 : ∀ σ, Kwd (pWd σ) (E1 σ)) (hm2 : ∀ σ, Kwd (pWd σ) (E2 σ)) (σ : CS) : Kwd (pWd σ) (f_X1_conjunction N E1 E2 σ) := by
  unfold f_X1_conjunction
  exact (kwd_bind (hm2 σ) (fun p1 => (kwd_bind (kW_X1_found N p1.2 132) (fun p5 => (kwd_ite (kwd_ite (kwd_some (rfl)) kwd_none) (kwd_bind (kW_X0_newTarget N p5.2) (fun p10 => (kW_X1_conjunction_27 N E1 E2 hm1 hm2 N p10.2 p10.1 0))))))))
theorem kW_X1_condition_65 (N : Nat) (E1 : CS → Option (Unit × CS)) (E2 : CS → Option (Int32 × CS)) (hm1 : ∀ σ, Kwd (pWd σ) (E1 σ)) (hm2 : ∀ σ, Kwd (pWd σ) (E2 σ)) (σ : CS) (x2 : Int32) : Kwd (pWd σ) (f_X1_condition_65 N E1 E2 σ x2) := by
  unfold f_X1_condition_65
  exact (kwd_bind (kW_X0_aim N σ x2) (fun p15 => (kwd_some (rfl))))
theorem kWb_X1_condition_27 (N : Nat) (E1 : CS → Option (Unit × CS)) (E2 : CS → Option (Int32 × CS)) (hm1 : ∀ σ, Kwd (pWd σ) (E1 σ)) (hm2 : ∀ σ, Kwd (pWd σ) (E2 σ)) (K : CS → Int32 → Int32 → Option (Int32 × CS)) (hMK : ∀ (σ : CS) (x2 : Int32) (x3 : Int32), Kwd (pWd σ) (K σ x2 x3)) (σ : CS) (x2 : Int32) (x3 : Int32) : Kwd (pWd σ) (b_X1_condition_27 N E1 E2 K σ x2 x3) := by
  unfold b_X1_condition_27
  exact (kwd_ite (kW_X1_condition_65 N E1 E2 hm1 hm2 σ x2) (kwd_bind (kW_X1_skip N σ 133) (fun p19 => (kwd_ite (kW_X1_condition_65 N E1 E2 hm1 hm2 p19.2 x2) (kwd_bind (kW_X0_add N p19.2 33 x2) (fun p24 => (kwd_bind (kW_X1_conjunction N E1 E2 hm1 hm2 p24.2) (fun p28 => (hMK p28.2 x2 (x3 + 1))))))))))
theorem kW_X1_condition_27 (N : Nat) (E1 : CS → Option (Unit × CS)) (E2 : CS → Option (Int32 × CS)) (hm1 : ∀ σ, Kwd (pWd σ) (E1 σ)) (hm2 : ∀ σ, Kwd (pWd σ) (E2 σ)) : ∀ (n : Nat) (σ : CS) (x2 : Int32) (x3 : Int32), Kwd (pWd σ) (f_X1_condition_27 N E1 E2 n σ x2 x3)
  | 0, _, _, _ => kwd_none
  | n+1, σ, x2, x3 => kWb_X1_condition_27 N E1 E2 hm1 hm2 (f_X1_condition_27 N E1 E2 n) (fun σ x2 x3 => kW_X1_condition_27 N E1 E2 hm1 hm2 n σ x2 x3) σ x2 x3
theorem kW_X1_condition (N : Nat) (E1 : CS → Option (Unit × CS)) (E2 : CS → Option (Int32 × CS)) (hm1 : ∀ σ, Kwd (pWd σ) (E1 σ)) (hm2 : ∀ σ, Kwd (pWd σ) (E2 σ)) (σ : CS) : Kwd (pWd σ) (f_X1_condition N E1 E2 σ) := by
  unfold f_X1_condition
  exact (kwd_bind (kW_X1_conjunction N E1 E2 hm1 hm2 σ) (fun p1 => (kwd_bind (kW_X1_found N p1.2 133) (fun p5 => (kwd_ite (kwd_ite (kwd_some (rfl)) kwd_none) (kwd_bind (kW_X0_newTarget N p5.2) (fun p10 => (kW_X1_condition_27 N E1 E2 hm1 hm2 N p10.2 p10.1 0))))))))
theorem kW_X7_conditionInside (N : Nat) (E1 : CS → Option (Unit × CS)) (E2 : CS → Option (Int32 × CS)) (hm1 : ∀ σ, Kwd (pWd σ) (E1 σ)) (hm2 : ∀ σ, Kwd (pWd σ) (E2 σ)) (σ : CS) : Kwd (pWd σ) (f_X7_conditionInside N E1 E2 σ) := by
  unfold f_X7_conditionInside
  exact (kwd_bind (kW_X1_open N σ 40) (fun p1 => (kwd_bind (kW_X1_condition N E1 E2 hm1 hm2 p1.2) (fun p5 => (kwd_bind (kW_X1_close N p5.2 41) (fun p9 => (kwd_ite (kwd_some (rfl)) kwd_none)))))))
theorem kW_X7_endDo_25 (N : Nat) (E1 : CS → Option (Unit × CS)) (E2 : CS → Option (Int32 × CS)) (hm1 : ∀ σ, Kwd (pWd σ) (E1 σ)) (hm2 : ∀ σ, Kwd (pWd σ) (E2 σ)) (σ : CS) (x1 : Nat) (x2 : Int32) : Kwd (pWd σ) (f_X7_endDo_25 N E1 E2 σ x1 x2) := by
  unfold f_X7_endDo_25
  exact (kwd_bind (kW_X1_expect N σ 205) (fun p2 => (kwd_ite (kwd_bind (kW_X0_aim N p2.2 (CS.o p2.2 x1 10)) (fun p7 => (kwd_bind (kW_X7_conditionInside N E1 E2 hm1 hm2 p7.2) (fun p11 => (kwd_bind (kW_X1_expect N p11.2 59) (fun p15 => (kwd_ite (kwd_bind (kW_X0_add N p15.2 31 (CS.o p15.2 x1 9)) (fun p20 => (kwd_ite (kwd_bind (kW_X0_add N p20.2 30 (CS.o p20.2 x1 11)) (fun p25 => (kwd_ite (kwd_bind (kW_X0_aim N p25.2 (CS.o p25.2 x1 9)) (fun p30 => (kwd_ite (kwd_bind (kW_X6_isGoneTo N p30.2 x1 0) (fun p35 => (kwd_ite (kwd_some (rfl)) (kwd_some (rfl))))) (kwd_ite (kwd_some (rfl)) (kwd_bind (kW_X6_isGoneTo N p30.2 x1 0) (fun p41 => (kwd_ite (kwd_some (rfl)) (kwd_some (rfl))))))))) kwd_none))) kwd_none))) kwd_none))))))) kwd_none)))
theorem kW_X7_endDo_19 (N : Nat) (E1 : CS → Option (Unit × CS)) (E2 : CS → Option (Int32 × CS)) (hm1 : ∀ σ, Kwd (pWd σ) (E1 σ)) (hm2 : ∀ σ, Kwd (pWd σ) (E2 σ)) (σ : CS) (x1 : Nat) : Kwd (pWd σ) (f_X7_endDo_19 N E1 E2 σ x1) := by
  unfold f_X7_endDo_19
  exact (kW_X7_endDo_25 N E1 E2 hm1 hm2 σ x1 1)
theorem kW_X7_endDo (N : Nat) (E1 : CS → Option (Unit × CS)) (E2 : CS → Option (Int32 × CS)) (hm1 : ∀ σ, Kwd (pWd σ) (E1 σ)) (hm2 : ∀ σ, Kwd (pWd σ) (E2 σ)) (σ : CS) (x1 : Nat) : Kwd (pWd σ) (f_X7_endDo N E1 E2 σ x1) := by
  unfold f_X7_endDo
  exact (kwd_ite (kwd_bind (kW_X6_isGoneTo N σ x1 1) (fun p46 => (kwd_ite (kW_X7_endDo_25 N E1 E2 hm1 hm2 p46.2 x1 0) (kW_X7_endDo_19 N E1 E2 hm1 hm2 p46.2 x1)))) (kW_X7_endDo_19 N E1 E2 hm1 hm2 σ x1))
theorem kW_X7_endBody_193 (N : Nat) (E1 : CS → Option (Unit × CS)) (E2 : CS → Option (Int32 × CS)) (hm1 : ∀ σ, Kwd (pWd σ) (E1 σ)) (hm2 : ∀ σ, Kwd (pWd σ) (E2 σ)) (σ : CS) (x1 : Nat) : Kwd (pWd σ) (f_X7_endBody_193 N E1 E2 σ x1) := by
  unfold f_X7_endBody_193
  exact (kwd_ite (kwd_bind (kW_X6_pop N (CS.setI σ 50 (CS.o σ x1 3))) (fun p14 => (kwd_some (rfl)))) kwd_none)
theorem kW_X7_endBody_88 (N : Nat) (E1 : CS → Option (Unit × CS)) (E2 : CS → Option (Int32 × CS)) (hm1 : ∀ σ, Kwd (pWd σ) (E1 σ)) (hm2 : ∀ σ, Kwd (pWd σ) (E2 σ)) (σ : CS) (x1 : Nat) : Kwd (pWd σ) (f_X7_endBody_88 N E1 E2 σ x1) := by
  unfold f_X7_endBody_88
  exact (kW_X7_endBody_193 N E1 E2 hm1 hm2 σ x1)
theorem kW_X7_endBody_130 (N : Nat) (E1 : CS → Option (Unit × CS)) (E2 : CS → Option (Int32 × CS)) (hm1 : ∀ σ, Kwd (pWd σ) (E1 σ)) (hm2 : ∀ σ, Kwd (pWd σ) (E2 σ)) (σ : CS) (x1 : Nat) : Kwd (pWd σ) (f_X7_endBody_130 N E1 E2 σ x1) := by
  unfold f_X7_endBody_130
  exact (kW_X7_endBody_193 N E1 E2 hm1 hm2 σ x1)
theorem kW_X7_endBody (N : Nat) (E1 : CS → Option (Unit × CS)) (E2 : CS → Option (Int32 × CS)) (hm1 : ∀ σ, Kwd (pWd σ) (E1 σ)) (hm2 : ∀ σ, Kwd (pWd σ) (E2 σ)) (σ : CS) (x1 : Nat) : Kwd (pWd σ) (f_X7_endBody N E1 E2 σ x1) := by
  unfold f_X7_endBody
  exact (kwd_ite (kwd_ite (kwd_bind (kW_X7_endIf N σ x1) (fun p3 => (kwd_some (rfl)))) (kwd_ite (kwd_bind (kW_X0_aim N σ (CS.o σ x1 9)) (fun p8 => (kwd_ite (kwd_ite (kwd_ite (kW_X7_endBody_88 N E1 E2 hm1 hm2 (CS.setI p8.2 36 0) x1) (kW_X7_endBody_88 N E1 E2 hm1 hm2 (CS.setI p8.2 36 1) x1)) kwd_none) (kW_X7_endBody_88 N E1 E2 hm1 hm2 (CS.setI p8.2 36 1) x1)))) (kwd_ite (kwd_bind (kW_X7_endDo N E1 E2 hm1 hm2 σ x1) (fun p21 => (kW_X7_endBody_193 N E1 E2 hm1 hm2 p21.2 x1))) (kwd_ite (kwd_bind (kW_X0_aim N σ (CS.o σ x1 9)) (fun p26 => (kwd_ite (kwd_bind (kW_X6_isGoneTo N p26.2 x1 0) (fun p31 => (kwd_ite (kW_X7_endBody_130 N E1 E2 hm1 hm2 (CS.setI p31.2 36 0) x1) (kW_X7_endBody_130 N E1 E2 hm1 hm2 (CS.setI p31.2 36 1) x1)))) (kW_X7_endBody_130 N E1 E2 hm1 hm2 (CS.setI p26.2 36 1) x1)))) (kwd_bind (kW_X0_add N σ 30 (CS.o σ x1 10)) (fun p36 => (kwd_ite (kwd_bind (kW_X0_aim N p36.2 (CS.o p36.2 x1 9)) (fun p41 => (kwd_ite (kwd_ite (kW_X7_endBody_193 N E1 E2 hm1 hm2 (CS.setI p41.2 36 1) x1) (kwd_bind (kW_X6_isGoneTo N p41.2 x1 0) (fun p47 => (kwd_ite (kW_X7_endBody_193 N E1 E2 hm1 hm2 (CS.setI p47.2 36 0) x1) (kW_X7_endBody_193 N E1 E2 hm1 hm2 (CS.setI p47.2 36 1) x1))))) kwd_none))) kwd_none))))))) kwd_none)
theorem kW_X7_notReached (N : Nat) (σ : CS) (x1 : Int32) : Kwd (pWd σ) (f_X7_notReached N σ x1) := by
  unfold f_X7_notReached
  exact (kwd_ite (kwd_some (rfl)) (kwd_some (rfl)))
theorem kW_X4_isCaught (N : Nat) (σ : CS) (x1 : Int32) : Kwd (pWd σ) (f_X4_isCaught N σ x1) := by
  unfold f_X4_isCaught
  exact (kwd_ite (kwd_some (rfl)) (kwd_some (rfl)))
theorem kW_X7_change_63 (N : Nat) (E1 : CS → Option (Unit × CS)) (E2 : CS → Option (Int32 × CS)) (hm1 : ∀ σ, Kwd (pWd σ) (E1 σ)) (hm2 : ∀ σ, Kwd (pWd σ) (E2 σ)) (σ : CS) (x3 : Int32) : Kwd (pWd σ) (f_X7_change_63 N E1 E2 σ x3) := by
  unfold f_X7_change_63
  exact (kwd_bind (kW_X1_fail N σ 3 x3) (fun p11 => (kwd_some (rfl))))
theorem kW_X7_change_72 (N : Nat) (E1 : CS → Option (Unit × CS)) (E2 : CS → Option (Int32 × CS)) (hm1 : ∀ σ, Kwd (pWd σ) (E1 σ)) (hm2 : ∀ σ, Kwd (pWd σ) (E2 σ)) (σ : CS) (x5 : Int32) (x6 : Int32) : Kwd (pWd σ) (f_X7_change_72 N E1 E2 σ x5 x6) := by
  unfold f_X7_change_72
  exact (kwd_ite (kwd_bind (kW_X1_misplaced N σ) (fun p46 => (kwd_some (rfl)))) (kwd_bind (kW_X1_skip N σ 135) (fun p17 => (kwd_ite (kwd_bind (kW_X9_advance N p17.2) (fun p22 => (kwd_bind (kW_X1_expression N E1 E2 hm1 hm2 p22.2) (fun p26 => (kwd_bind (kW_X4_cellOf N p26.2 x5) (fun p30 => (kwd_bind (kW_X0_add N p30.2 2 p30.1) (fun p34 => (kwd_some (rfl)))))))))) (kwd_bind (kW_X4_cellOf N p17.2 x5) (fun p38 => (kwd_bind (kW_X0_add N p38.2 3 p38.1) (fun p42 => (kwd_some (rfl))))))))))
theorem kW_X7_change_41 (N : Nat) (E1 : CS → Option (Unit × CS)) (E2 : CS → Option (Int32 × CS)) (hm1 : ∀ σ, Kwd (pWd σ) (E1 σ)) (hm2 : ∀ σ, Kwd (pWd σ) (E2 σ)) (σ : CS) (x3 : Int32) (x5 : Int32) (x6 : Int32) : Kwd (pWd σ) (f_X7_change_41 N E1 E2 σ x3 x5 x6) := by
  unfold f_X7_change_41
  exact (kwd_ite (kW_X7_change_63 N E1 E2 hm1 hm2 σ x3) (kwd_ite (kW_X7_change_72 N E1 E2 hm1 hm2 σ x5 x6) (kwd_bind (kW_X4_isCaught N σ x5) (fun p50 => (kwd_ite (kW_X7_change_72 N E1 E2 hm1 hm2 p50.2 x5 x6) (kW_X7_change_63 N E1 E2 hm1 hm2 p50.2 x3))))))
theorem kW_X7_change_34 (N : Nat) (E1 : CS → Option (Unit × CS)) (E2 : CS → Option (Int32 × CS)) (hm1 : ∀ σ, Kwd (pWd σ) (E1 σ)) (hm2 : ∀ σ, Kwd (pWd σ) (E2 σ)) (σ : CS) (x3 : Int32) (x5 : Int32) : Kwd (pWd σ) (f_X7_change_34 N E1 E2 σ x3 x5) := by
  unfold f_X7_change_34
  exact (kW_X7_change_41 N E1 E2 hm1 hm2 σ x3 x5 1)
theorem kW_X7_change_38 (N : Nat) (E1 : CS → Option (Unit × CS)) (E2 : CS → Option (Int32 × CS)) (hm1 : ∀ σ, Kwd (pWd σ) (E1 σ)) (hm2 : ∀ σ, Kwd (pWd σ) (E2 σ)) (σ : CS) (x3 : Int32) (x5 : Int32) : Kwd (pWd σ) (f_X7_change_38 N E1 E2 σ x3 x5) := by
  unfold f_X7_change_38
  exact (kW_X7_change_41 N E1 E2 hm1 hm2 σ x3 x5 0)
theorem kW_X7_change (N : Nat) (E1 : CS → Option (Unit × CS)) (E2 : CS → Option (Int32 × CS)) (hm1 : ∀ σ, Kwd (pWd σ) (E1 σ)) (hm2 : ∀ σ, Kwd (pWd σ) (E2 σ)) (σ : CS) (x1 : Int64) (x3 : Int32) (x4 : Int32) : Kwd (pWd σ) (f_X7_change N E1 E2 σ x1 x3 x4) := by
  unfold f_X7_change
  exact (kwd_bind (kW_X4_find N σ x1) (fun p1 => (kwd_bind (kW_X1_found N p1.2 61) (fun p5 => (kwd_ite (kwd_ite (kW_X7_change_38 N E1 E2 hm1 hm2 p5.2 x3 p1.1) (kwd_bind (kW_X1_found N p5.2 135) (fun p56 => (kwd_ite (kW_X7_change_38 N E1 E2 hm1 hm2 p56.2 x3 p1.1) (kW_X7_change_34 N E1 E2 hm1 hm2 p56.2 x3 p1.1))))) (kW_X7_change_34 N E1 E2 hm1 hm2 p5.2 x3 p1.1))))))
theorem kWb_X6_labelled_7 (N : Nat) (K : CS → Int64 → Int32 → Option (Int32 × CS)) (hMK : ∀ (σ : CS) (x1 : Int64) (x3 : Int32), Kwd (pWd σ) (K σ x1 x3)) (σ : CS) (x1 : Int64) (x3 : Int32) : Kwd (pWd σ) (b_X6_labelled_7 N K σ x1 x3) := by
  unfold b_X6_labelled_7
  exact (kwd_ite (kwd_some (rfl)) (kwd_bind (kW_X6_row N σ x3) (fun p2 => (kwd_oc (hMK p2.2 x1 (x3 + (-1))) (fun a7 => (kwd_ite (kwd_ite (kwd_ite (kwd_some (rfl)) (hMK p2.2 x1 (x3 + (-1)))) (hMK p2.2 x1 (x3 + (-1)))) kwd_none))))))
theorem kW_X6_labelled_7 (N : Nat) : ∀ (n : Nat) (σ : CS) (x1 : Int64) (x3 : Int32), Kwd (pWd σ) (f_X6_labelled_7 N n σ x1 x3)
  | 0, _, _, _ => kwd_none
  | n+1, σ, x1, x3 => kWb_X6_labelled_7 N (f_X6_labelled_7 N n) (fun σ x1 x3 => kW_X6_labelled_7 N n σ x1 x3) σ x1 x3
theorem kW_X6_labelled (N : Nat) (σ : CS) (x1 : Int64) : Kwd (pWd σ) (f_X6_labelled N σ x1) := by
  unfold f_X6_labelled
  exact (kW_X6_labelled_7 N N σ x1 ((σ.i 53) - 1))
theorem kW_X7_named_73 (N : Nat) (E1 : CS → Option (Unit × CS)) (E2 : CS → Option (Int32 × CS)) (hm1 : ∀ σ, Kwd (pWd σ) (E1 σ)) (hm2 : ∀ σ, Kwd (pWd σ) (E2 σ)) (σ : CS) (x1 : Int64) : Kwd (pWd σ) (f_X7_named_73 N E1 E2 σ x1) := by
  unfold f_X7_named_73
  exact (kwd_bind (kW_X9_advance N σ) (fun p15 => (kwd_bind (kW_X6_push N p15.2 303 (p15.2.i 38) (p15.2.i 50)) (fun p19 => (kwd_oc kwd_none (fun a24 => (kwd_ite (kwd_bind (kW_X0_newTarget N (CS.setOl p19.2 a24 x1)) (fun p26 => (kwd_ite (kwd_some (rfl)) kwd_none))) kwd_none)))))))
theorem kW_X7_named (N : Nat) (E1 : CS → Option (Unit × CS)) (E2 : CS → Option (Int32 × CS)) (hm1 : ∀ σ, Kwd (pWd σ) (E1 σ)) (hm2 : ∀ σ, Kwd (pWd σ) (E2 σ)) (σ : CS) : Kwd (pWd σ) (f_X7_named N E1 E2 σ) := by
  unfold f_X7_named
  exact (kwd_bind (kW_X9_advance N σ) (fun p1 => (kwd_bind (kW_X1_found N p1.2 58) (fun p5 => (kwd_ite (kwd_bind (kW_X0_add N p5.2 51 0) (fun p35 => (kwd_bind (kW_X7_change N E1 E2 hm1 hm2 p35.2 σ.l (σ.i 44) 1) (fun p39 => (kwd_bind (kW_X1_expect N p39.2 59) (fun p43 => (kwd_some (rfl)))))))) (kwd_bind (kW_X6_labelled N p5.2 σ.l) (fun p10 => (kwd_ite (kW_X7_named_73 N E1 E2 hm1 hm2 p10.2 σ.l) (kwd_bind (kW_X1_fail N p10.2 4 (σ.i 44)) (fun p31 => (kW_X7_named_73 N E1 E2 hm1 hm2 p31.2 σ.l)))))))))))
theorem kW_X7_newName_56 (N : Nat) (σ : CS) (x1 : Int64) : Kwd (pWd σ) (f_X7_newName_56 N σ x1) := by
  unfold f_X7_newName_56
  exact (kwd_some (rfl))
theorem kW_X7_newName (N : Nat) (σ : CS) : Kwd (pWd σ) (f_X7_newName N σ) := by
  unfold f_X7_newName
  exact (kwd_bind (kW_X1_found N σ 2) (fun p1 => (kwd_ite (kwd_bind (kW_X1_misplaced N p1.2) (fun p19 => (kW_X7_newName_56 N p19.2 σ.l))) (kwd_bind (kW_X4_find N p1.2 σ.l) (fun p6 => (kwd_ite (kwd_bind (kW_X9_advance N p6.2) (fun p11 => (kW_X7_newName_56 N p11.2 σ.l))) (kwd_bind (kW_X1_fail N p6.2 4 (p6.2.i 44)) (fun p15 => (kW_X7_newName_56 N p15.2 σ.l)))))))))
theorem kW_X4_add (N : Nat) (σ : CS) (x1 : Int64) (x3 : Int32) (x4 : Int32) : Kwd (pWd σ) (f_X4_add N σ x1 x3 x4) := by
  unfold f_X4_add
  exact (kwd_ite (kwd_some (rfl)) (kwd_ite (kwd_some (rfl)) kwd_none))
theorem kW_X7_tell (N : Nat) (σ : CS) (x1 : Int64) : Kwd (pWd σ) (f_X7_tell N σ x1) := by
  unfold f_X7_tell
  exact (kwd_bind (kW_X0_newCells N σ 1) (fun p1 => (kwd_bind (kW_X4_add N p1.2 x1 p1.1 (-1)) (fun p5 => (kwd_some (rfl))))))
theorem kW_X7_define (N : Nat) (E1 : CS → Option (Unit × CS)) (E2 : CS → Option (Int32 × CS)) (hm1 : ∀ σ, Kwd (pWd σ) (E1 σ)) (hm2 : ∀ σ, Kwd (pWd σ) (E2 σ)) (σ : CS) (x1 : Int64) : Kwd (pWd σ) (f_X7_define N E1 E2 σ x1) := by
  unfold f_X7_define
  exact (kwd_bind (kW_X1_expect N σ 61) (fun p1 => (kwd_bind (kW_X1_expression N E1 E2 hm1 hm2 p1.2) (fun p5 => (kwd_bind (kW_X7_tell N p5.2 x1) (fun p9 => (kwd_bind (kW_X0_add N p9.2 2 p9.1) (fun p13 => (kwd_some (rfl))))))))))
theorem kW_X6_loopBehind_47 (N : Nat) (σ : CS) : Kwd (pWd σ) (f_X6_loopBehind_47 N σ ) := by
  unfold f_X6_loopBehind_47
  exact (kwd_some (rfl))
theorem kW_X6_loopBehind_32 (N : Nat) (σ : CS) (x2 : Int32) (x3 : Option Nat) : Kwd (pWd σ) (f_X6_loopBehind_32 N σ x2 x3) := by
  unfold f_X6_loopBehind_32
  exact (kwd_oc (kW_X6_loopBehind_47 N σ) (fun a9 => (kwd_ite (kwd_bind (kW_X5_isLoop N σ a9) (fun p12 => (kwd_ite (kW_X6_loopBehind_47 N p12.2) (kwd_some (rfl))))) kwd_none)))
theorem kWb_X6_loopBehind_4 (N : Nat) (K : CS → Int32 → Option (Int32 × CS)) (hMK : ∀ (σ : CS) (x2 : Int32), Kwd (pWd σ) (K σ x2)) (σ : CS) (x2 : Int32) : Kwd (pWd σ) (b_X6_loopBehind_4 N K σ x2) := by
  unfold b_X6_loopBehind_4
  exact (kwd_ite (kwd_some (rfl)) (kwd_bind (kW_X6_row N σ x2) (fun p2 => (kwd_oc (kW_X6_loopBehind_32 N p2.2 x2 none) (fun a7 => (kwd_ite (kwd_ite (hMK p2.2 (x2 + 1)) (kW_X6_loopBehind_32 N p2.2 x2 (some a7))) kwd_none))))))
theorem kW_X6_loopBehind_4 (N : Nat) : ∀ (n : Nat) (σ : CS) (x2 : Int32), Kwd (pWd σ) (f_X6_loopBehind_4 N n σ x2)
  | 0, _, _ => kwd_none
  | n+1, σ, x2 => kWb_X6_loopBehind_4 N (f_X6_loopBehind_4 N n) (fun σ x2 => kW_X6_loopBehind_4 N n σ x2) σ x2
theorem kW_X6_loopBehind (N : Nat) (σ : CS) (x1 : Int32) : Kwd (pWd σ) (f_X6_loopBehind N σ x1) := by
  unfold f_X6_loopBehind
  exact (kW_X6_loopBehind_4 N N σ (x1 + 1))
theorem kW_X7_labelTarget_63 (N : Nat) (σ : CS) (x2 : Int32) : Kwd (pWd σ) (f_X7_labelTarget_63 N σ x2) := by
  unfold f_X7_labelTarget_63
  exact (kwd_bind (kW_X9_advance N σ) (fun p7 => (kwd_some (rfl))))
theorem kW_X7_labelTarget (N : Nat) (σ : CS) (x1 : Int32) : Kwd (pWd σ) (f_X7_labelTarget N σ x1) := by
  unfold f_X7_labelTarget
  exact (kwd_bind (kW_X6_labelled N σ σ.l) (fun p1 => (kwd_ite (kwd_ite (kW_X7_labelTarget_63 N p1.2 p1.1) (kwd_bind (kW_X6_loopBehind N p1.2 p1.1) (fun p11 => (kwd_ite (kW_X7_labelTarget_63 N p11.2 p11.1) (kwd_bind (kW_X1_fail N p11.2 5 (p11.2.i 44)) (fun p16 => (kW_X7_labelTarget_63 N p16.2 p11.1))))))) (kwd_bind (kW_X1_fail N p1.2 3 (p1.2.i 44)) (fun p20 => (kW_X7_labelTarget_63 N p20.2 p1.1))))))
theorem kW_X6_nearest_46 (N : Nat) (σ : CS) (x2 : Int32) : Kwd (pWd σ) (f_X6_nearest_46 N σ x2) := by
  unfold f_X6_nearest_46
  exact (kwd_some (rfl))
theorem kWb_X6_nearest_7 (N : Nat) (K : CS → Int32 → Int32 → Option (Int32 × CS)) (hMK : ∀ (σ : CS) (x1 : Int32) (x2 : Int32), Kwd (pWd σ) (K σ x1 x2)) (σ : CS) (x1 : Int32) (x2 : Int32) : Kwd (pWd σ) (b_X6_nearest_7 N K σ x1 x2) := by
  unfold b_X6_nearest_7
  exact (kwd_ite (kwd_some (rfl)) (kwd_bind (kW_X6_row N σ x2) (fun p2 => (kwd_oc (hMK p2.2 x1 (x2 + (-1))) (fun a7 => (kwd_ite (kwd_bind (kW_X5_isLoop N p2.2 a7) (fun p10 => (kwd_ite (kwd_ite (kwd_ite (kwd_ite (kW_X6_nearest_46 N p10.2 x2) (hMK p10.2 x1 (x2 + (-1)))) kwd_none) (hMK p10.2 x1 (x2 + (-1)))) (kW_X6_nearest_46 N p10.2 x2)))) kwd_none))))))
theorem kW_X6_nearest_7 (N : Nat) : ∀ (n : Nat) (σ : CS) (x1 : Int32) (x2 : Int32), Kwd (pWd σ) (f_X6_nearest_7 N n σ x1 x2)
  | 0, _, _, _ => kwd_none
  | n+1, σ, x1, x2 => kWb_X6_nearest_7 N (f_X6_nearest_7 N n) (fun σ x1 x2 => kW_X6_nearest_7 N n σ x1 x2) σ x1 x2
theorem kW_X6_nearest (N : Nat) (σ : CS) (x1 : Int32) : Kwd (pWd σ) (f_X6_nearest N σ x1) := by
  unfold f_X6_nearest
  exact (kW_X6_nearest_7 N N σ x1 ((σ.i 53) - 1))
theorem kW_X6_addJump (N : Nat) (σ : CS) (x1 : Nat) (x2 : Int32) : Kwd (pWd σ) (f_X6_addJump N σ x1 x2) := by
  unfold f_X6_addJump
  exact (kwd_bind (kW_X6_jumpTo N σ x1 x2) (fun p1 => (kwd_some (rfl))))
theorem kW_X7_leave (N : Nat) (σ : CS) (x1 : Int32) (x2 : Int32) : Kwd (pWd σ) (f_X7_leave N σ x1 x2) := by
  unfold f_X7_leave
  exact (kwd_ite (kwd_bind (kW_X0_add N σ 30 x1) (fun p6 => (kwd_some (rfl)))) (kwd_bind (kW_X0_add N σ 60 ((x1 * 32) + x2)) (fun p2 => (kwd_some (rfl)))))
theorem kW_X7_jump_129 (N : Nat) (σ : CS) : Kwd (pWd σ) (f_X7_jump_129 N σ ) := by
  unfold f_X7_jump_129
  exact (kwd_some (rfl))
theorem kW_X7_jump_72 (N : Nat) (σ : CS) (x1 : Int32) (x3 : Int32) : Kwd (pWd σ) (f_X7_jump_72 N σ x1 x3) := by
  unfold f_X7_jump_72
  exact (kwd_bind (kW_X1_expect N σ 59) (fun p19 => (kwd_bind (kW_X6_row N p19.2 x3) (fun p23 => (kwd_oc (kW_X7_jump_129 N p23.2) (fun a28 => (kwd_bind (kW_X6_addJump N p23.2 a28 x1) (fun p29 => (kwd_ite (kwd_ite (kwd_bind (kW_X7_leave N p29.2 (CS.o p29.2 a28 9) (CS.o p29.2 a28 2)) (fun p35 => (kW_X7_jump_129 N p35.2))) kwd_none) (kwd_ite (kwd_bind (kW_X7_leave N p29.2 (CS.o p29.2 a28 10) (CS.o p29.2 a28 2)) (fun p40 => (kW_X7_jump_129 N p40.2))) kwd_none))))))))))
theorem kW_X7_jump (N : Nat) (σ : CS) : Kwd (pWd σ) (f_X7_jump N σ) := by
  unfold f_X7_jump
  exact (kwd_bind (kW_X1_found N σ 209) (fun p1 => (kwd_bind (kW_X9_advance N (CS.setI p1.2 26 ((p1.2.i 26) + 1))) (fun p5 => (kwd_bind (kW_X1_found N p5.2 2) (fun p9 => (kwd_ite (kwd_bind (kW_X6_nearest N p9.2 p1.1) (fun p14 => (kwd_ite (kW_X7_jump_72 N p14.2 p1.1 p14.1) (kwd_bind (kW_X1_fail N p14.2 5 (p1.2.i 44)) (fun p44 => (kW_X7_jump_72 N p44.2 p1.1 p14.1)))))) (kwd_bind (kW_X7_labelTarget N p9.2 p1.1) (fun p48 => (kW_X7_jump_72 N p48.2 p1.1 p48.1))))))))))
theorem kW_X7_giveBack_22 (N : Nat) (E1 : CS → Option (Unit × CS)) (E2 : CS → Option (Int32 × CS)) (hm1 : ∀ σ, Kwd (pWd σ) (E1 σ)) (hm2 : ∀ σ, Kwd (pWd σ) (E2 σ)) (σ : CS) : Kwd (pWd σ) (f_X7_giveBack_22 N E1 E2 σ ) := by
  unfold f_X7_giveBack_22
  exact (kwd_bind (kW_X9_advance N σ) (fun p2 => (kwd_bind (kW_X1_expression N E1 E2 hm1 hm2 p2.2) (fun p6 => (kwd_bind (kW_X0_add N p6.2 62 0) (fun p10 => (kwd_bind (kW_X1_expect N p10.2 59) (fun p14 => (kwd_some (rfl))))))))))
theorem kW_X7_giveBack (N : Nat) (E1 : CS → Option (Unit × CS)) (E2 : CS → Option (Int32 × CS)) (hm1 : ∀ σ, Kwd (pWd σ) (E1 σ)) (hm2 : ∀ σ, Kwd (pWd σ) (E2 σ)) (σ : CS) : Kwd (pWd σ) (f_X7_giveBack N E1 E2 σ) := by
  unfold f_X7_giveBack
  exact (kwd_ite (kW_X7_giveBack_22 N E1 E2 hm1 hm2 σ) (kwd_bind (kW_X1_fail N σ 5 (σ.i 44)) (fun p18 => (kW_X7_giveBack_22 N E1 E2 hm1 hm2 p18.2))))
theorem kW_X7_yieldValue (N : Nat) (E1 : CS → Option (Unit × CS)) (E2 : CS → Option (Int32 × CS)) (hm1 : ∀ σ, Kwd (pWd σ) (E1 σ)) (hm2 : ∀ σ, Kwd (pWd σ) (E2 σ)) (σ : CS) : Kwd (pWd σ) (f_X7_yieldValue N E1 E2 σ) := by
  unfold f_X7_yieldValue
  exact (kwd_bind (kW_X6_row N σ (σ.i 56)) (fun p1 => (kwd_oc (kwd_bind (kW_X1_fail N p1.2 5 (p1.2.i 44)) (fun p7 => (kwd_some (rfl)))) (fun a6 => (kwd_bind (kW_X9_advance N p1.2) (fun p11 => (kwd_bind (kW_X1_expression N E1 E2 hm1 hm2 p11.2) (fun p15 => (kwd_ite (kwd_bind (kW_X0_add N p15.2 61 (((CS.o p15.2 a6 9) * 32) + (CS.o p15.2 a6 2))) (fun p20 => (kwd_bind (kW_X1_expect N p20.2 59) (fun p24 => (kwd_some (rfl)))))) kwd_none)))))))))
theorem kW_X10_isKind_16 (N : Nat) (σ : CS) : Kwd (pWd σ) (f_X10_isKind_16 N σ ) := by
  unfold f_X10_isKind_16
  exact (kwd_some (rfl))
theorem kW_X10_isKind (N : Nat) (σ : CS) (x1 : Int32) : Kwd (pWd σ) (f_X10_isKind N σ x1) := by
  unfold f_X10_isKind
  exact (kwd_ite (kW_X10_isKind_16 N σ) (kwd_ite (kW_X10_isKind_16 N σ) (kwd_some (rfl))))
theorem kW_X4_frameOf (N : Nat) (σ : CS) (x1 : Int32) : Kwd (pWd σ) (f_X4_frameOf N σ x1) := by
  unfold f_X4_frameOf
  exact (kwd_some (rfl))
theorem kW_X7_throwOne_152 (N : Nat) (E1 : CS → Option (Unit × CS)) (E2 : CS → Option (Int32 × CS)) (hm1 : ∀ σ, Kwd (pWd σ) (E1 σ)) (hm2 : ∀ σ, Kwd (pWd σ) (E2 σ)) (σ : CS) : Kwd (pWd σ) (f_X7_throwOne_152 N E1 E2 σ ) := by
  unfold f_X7_throwOne_152
  exact (kwd_bind (kW_X1_expect N σ 59) (fun p19 => (kwd_some (rfl))))
theorem kW_X7_throwOne_108 (N : Nat) (E1 : CS → Option (Unit × CS)) (E2 : CS → Option (Int32 × CS)) (hm1 : ∀ σ, Kwd (pWd σ) (E1 σ)) (hm2 : ∀ σ, Kwd (pWd σ) (E2 σ)) (σ : CS) : Kwd (pWd σ) (f_X7_throwOne_108 N E1 E2 σ ) := by
  unfold f_X7_throwOne_108
  exact (kwd_bind (kW_X1_fail N σ 3 (σ.i 44)) (fun p28 => (kwd_some (rfl))))
theorem kW_X7_throwOne_46 (N : Nat) (E1 : CS → Option (Unit × CS)) (E2 : CS → Option (Int32 × CS)) (hm1 : ∀ σ, Kwd (pWd σ) (E1 σ)) (hm2 : ∀ σ, Kwd (pWd σ) (E2 σ)) (σ : CS) (x1 : Int32) : Kwd (pWd σ) (f_X7_throwOne_46 N E1 E2 σ x1) := by
  unfold f_X7_throwOne_46
  exact (kwd_bind (kW_X9_advance N σ) (fun p54 => (kwd_bind (kW_X1_expression N E1 E2 hm1 hm2 p54.2) (fun p58 => (kwd_bind (kW_X0_add N p58.2 63 x1) (fun p62 => (kW_X7_throwOne_152 N E1 E2 hm1 hm2 p62.2)))))))
theorem kW_X7_throwOne (N : Nat) (E1 : CS → Option (Unit × CS)) (E2 : CS → Option (Int32 × CS)) (hm1 : ∀ σ, Kwd (pWd σ) (E1 σ)) (hm2 : ∀ σ, Kwd (pWd σ) (E2 σ)) (σ : CS) : Kwd (pWd σ) (f_X7_throwOne N E1 E2 σ) := by
  unfold f_X7_throwOne
  exact (kwd_bind (kW_X9_advance N σ) (fun p1 => (kwd_bind (kW_X1_found N p1.2 5) (fun p5 => (kwd_ite (kwd_bind (kW_X1_found N p5.2 2) (fun p10 => (kwd_ite (kwd_bind (kW_X1_misplaced N p10.2) (fun p15 => (kW_X7_throwOne_152 N E1 E2 hm1 hm2 p15.2))) (kwd_bind (kW_X4_find N p10.2 p10.2.l) (fun p23 => (kwd_ite (kW_X7_throwOne_108 N E1 E2 hm1 hm2 p23.2) (kwd_bind (kW_X4_isCaught N p23.2 p23.1) (fun p32 => (kwd_ite (kW_X7_throwOne_108 N E1 E2 hm1 hm2 p32.2) (kwd_bind (kW_X4_frameOf N p32.2 p23.1) (fun p37 => (kwd_bind (kW_X0_add N p37.2 64 p37.1) (fun p41 => (kwd_bind (kW_X9_advance N p41.2) (fun p45 => (kW_X7_throwOne_152 N E1 E2 hm1 hm2 p45.2)))))))))))))))) (kwd_bind (kW_X10_isKind N p5.2 (p5.2.i 45)) (fun p49 => (kwd_ite (kwd_bind (kW_X1_fail N p49.2 3 (p49.2.i 44)) (fun p66 => (kW_X7_throwOne_46 N E1 E2 hm1 hm2 p66.2 (p5.2.i 45)))) (kW_X7_throwOne_46 N E1 E2 hm1 hm2 p49.2 (p5.2.i 45))))))))))
theorem kW_X7_claim_74 (N : Nat) (E1 : CS → Option (Unit × CS)) (E2 : CS → Option (Int32 × CS)) (hm1 : ∀ σ, Kwd (pWd σ) (E1 σ)) (hm2 : ∀ σ, Kwd (pWd σ) (E2 σ)) (σ : CS) (x1 : Int32) : Kwd (pWd σ) (f_X7_claim_74 N E1 E2 σ x1) := by
  unfold f_X7_claim_74
  exact (kwd_bind (kW_X0_add N σ 63 3) (fun p34 => (kwd_bind (kW_X0_aim N p34.2 x1) (fun p38 => (kwd_bind (kW_X1_expect N p38.2 59) (fun p42 => (kwd_some (rfl))))))))
theorem kW_X7_claim (N : Nat) (E1 : CS → Option (Unit × CS)) (E2 : CS → Option (Int32 × CS)) (hm1 : ∀ σ, Kwd (pWd σ) (E1 σ)) (hm2 : ∀ σ, Kwd (pWd σ) (E2 σ)) (σ : CS) : Kwd (pWd σ) (f_X7_claim N E1 E2 σ) := by
  unfold f_X7_claim
  exact (kwd_bind (kW_X0_newTarget N σ) (fun p1 => (kwd_bind (kW_X9_advance N p1.2) (fun p5 => (kwd_bind (kW_X0_add N p5.2 35 p1.1) (fun p9 => (kwd_bind (kW_X1_condition N E1 E2 hm1 hm2 p9.2) (fun p13 => (kwd_bind (kW_X0_add N p13.2 5 0) (fun p17 => (kwd_bind (kW_X0_add N p17.2 31 p1.1) (fun p21 => (kwd_bind (kW_X1_skip N p21.2 58) (fun p25 => (kwd_ite (kwd_bind (kW_X0_add N p25.2 0 0) (fun p30 => (kW_X7_claim_74 N E1 E2 hm1 hm2 p30.2 p1.1))) (kwd_bind (kW_X1_expression N E1 E2 hm1 hm2 p25.2) (fun p46 => (kW_X7_claim_74 N E1 E2 hm1 hm2 p46.2 p1.1))))))))))))))))))
theorem kW_X7_beginIf (N : Nat) (E1 : CS → Option (Unit × CS)) (E2 : CS → Option (Int32 × CS)) (hm1 : ∀ σ, Kwd (pWd σ) (E1 σ)) (hm2 : ∀ σ, Kwd (pWd σ) (E2 σ)) (σ : CS) : Kwd (pWd σ) (f_X7_beginIf N E1 E2 σ) := by
  unfold f_X7_beginIf
  exact (kwd_bind (kW_X0_newTarget N σ) (fun p1 => (kwd_bind (kW_X9_advance N p1.2) (fun p5 => (kwd_bind (kW_X7_conditionInside N E1 E2 hm1 hm2 p5.2) (fun p9 => (kwd_bind (kW_X0_add N p9.2 31 p1.1) (fun p13 => (kwd_bind (kW_X6_push N p13.2 203 (p13.2.i 38) (p13.2.i 50)) (fun p17 => (kwd_oc kwd_none (fun a22 => (kwd_ite (kwd_some (rfl)) kwd_none)))))))))))))
theorem kW_X7_pushLoop (N : Nat) (σ : CS) (x1 : Int32) (x2 : Int32) (x3 : Int32) : Kwd (pWd σ) (f_X7_pushLoop N σ x1 x2 x3) := by
  unfold f_X7_pushLoop
  exact (kwd_bind (kW_X6_push N σ x1 (σ.i 38) (σ.i 50)) (fun p1 => (kwd_oc kwd_none (fun a6 => (kwd_ite (kwd_some (rfl)) kwd_none)))))
theorem kW_X7_beginWhile (N : Nat) (E1 : CS → Option (Unit × CS)) (E2 : CS → Option (Int32 × CS)) (hm1 : ∀ σ, Kwd (pWd σ) (E1 σ)) (hm2 : ∀ σ, Kwd (pWd σ) (E2 σ)) (σ : CS) : Kwd (pWd σ) (f_X7_beginWhile N E1 E2 σ) := by
  unfold f_X7_beginWhile
  exact (kwd_bind (kW_X0_newTarget N σ) (fun p1 => (kwd_bind (kW_X0_newTarget N p1.2) (fun p5 => (kwd_bind (kW_X9_advance N p5.2) (fun p9 => (kwd_bind (kW_X0_aim N p9.2 p1.1) (fun p13 => (kwd_bind (kW_X7_conditionInside N E1 E2 hm1 hm2 p13.2) (fun p17 => (kwd_bind (kW_X0_add N p17.2 31 p5.1) (fun p21 => (kwd_bind (kW_X0_add N p21.2 51 0) (fun p25 => (kwd_bind (kW_X7_pushLoop N p25.2 205 p1.1 p5.1) (fun p29 => (kwd_oc kwd_none (fun a34 => (kwd_ite (kwd_ite (kwd_some (rfl)) kwd_none) kwd_none)))))))))))))))))))
theorem kW_X7_beginDo (N : Nat) (σ : CS) : Kwd (pWd σ) (f_X7_beginDo N σ) := by
  unfold f_X7_beginDo
  exact (kwd_bind (kW_X0_newTarget N σ) (fun p1 => (kwd_bind (kW_X0_newTarget N p1.2) (fun p5 => (kwd_bind (kW_X7_pushLoop N p5.2 206 p1.1 p5.1) (fun p9 => (kwd_oc (kwd_bind (kW_X0_newTarget N p9.2) (fun p15 => kwd_none)) (fun a14 => (kwd_bind (kW_X0_newTarget N p9.2) (fun p19 => (kwd_ite (kwd_bind (kW_X9_advance N (CS.setO p19.2 a14 11 p19.1)) (fun p24 => (kwd_ite (kwd_bind (kW_X0_aim N p24.2 (CS.o p24.2 a14 11)) (fun p29 => (kwd_bind (kW_X0_add N p29.2 51 0) (fun p33 => (kwd_some (rfl)))))) kwd_none))) kwd_none)))))))))))
theorem kW_X7_throwNull (N : Nat) (σ : CS) : Kwd (pWd σ) (f_X7_throwNull N σ) := by
  unfold f_X7_throwNull
  exact (kwd_bind (kW_X0_add N σ 0 0) (fun p1 => (kwd_bind (kW_X0_add N p1.2 63 1) (fun p5 => (kwd_some (rfl))))))
theorem kW_X7_rowValues_60 (N : Nat) (E1 : CS → Option (Unit × CS)) (E2 : CS → Option (Int32 × CS)) (hm1 : ∀ σ, Kwd (pWd σ) (E1 σ)) (hm2 : ∀ σ, Kwd (pWd σ) (E2 σ)) (σ : CS) (x1 : Int32) : Kwd (pWd σ) (f_X7_rowValues_60 N E1 E2 σ x1) := by
  unfold f_X7_rowValues_60
  exact (kwd_bind (kW_X0_newCells N σ (2 + x1)) (fun p11 => (kwd_bind (kW_X0_add N p11.2 0 x1) (fun p15 => (kwd_bind (kW_X0_add N p15.2 36 p11.1) (fun p19 => (kwd_some (rfl))))))))
theorem kWb_X7_rowValues_31 (N : Nat) (E1 : CS → Option (Unit × CS)) (E2 : CS → Option (Int32 × CS)) (hm1 : ∀ σ, Kwd (pWd σ) (E1 σ)) (hm2 : ∀ σ, Kwd (pWd σ) (E2 σ)) (K : CS → Int32 → Int32 → Option (Int32 × CS)) (hMK : ∀ (σ : CS) (x1 : Int32) (x2 : Int32), Kwd (pWd σ) (K σ x1 x2)) (σ : CS) (x1 : Int32) (x2 : Int32) : Kwd (pWd σ) (b_X7_rowValues_31 N E1 E2 K σ x1 x2) := by
  unfold b_X7_rowValues_31
  exact (kwd_ite (kW_X7_rowValues_60 N E1 E2 hm1 hm2 σ x1) (kwd_bind (kW_X1_skip N σ 44) (fun p23 => (kwd_ite (kW_X7_rowValues_60 N E1 E2 hm1 hm2 p23.2 x1) (kwd_bind (kW_X1_expression N E1 E2 hm1 hm2 p23.2) (fun p28 => (hMK p28.2 (x1 + 1) (x2 + 1))))))))
theorem kW_X7_rowValues_31 (N : Nat) (E1 : CS → Option (Unit × CS)) (E2 : CS → Option (Int32 × CS)) (hm1 : ∀ σ, Kwd (pWd σ) (E1 σ)) (hm2 : ∀ σ, Kwd (pWd σ) (E2 σ)) : ∀ (n : Nat) (σ : CS) (x1 : Int32) (x2 : Int32), Kwd (pWd σ) (f_X7_rowValues_31 N E1 E2 n σ x1 x2)
  | 0, _, _, _ => kwd_none
  | n+1, σ, x1, x2 => kWb_X7_rowValues_31 N E1 E2 hm1 hm2 (f_X7_rowValues_31 N E1 E2 n) (fun σ x1 x2 => kW_X7_rowValues_31 N E1 E2 hm1 hm2 n σ x1 x2) σ x1 x2
theorem kW_X7_rowValues (N : Nat) (E1 : CS → Option (Unit × CS)) (E2 : CS → Option (Int32 × CS)) (hm1 : ∀ σ, Kwd (pWd σ) (E1 σ)) (hm2 : ∀ σ, Kwd (pWd σ) (E2 σ)) (σ : CS) : Kwd (pWd σ) (f_X7_rowValues N E1 E2 σ) := by
  unfold f_X7_rowValues
  exact (kwd_bind (kW_X1_skip N σ 224) (fun p1 => (kwd_ite (kwd_bind (kW_X1_expression N E1 E2 hm1 hm2 p1.2) (fun p6 => (kW_X7_rowValues_31 N E1 E2 hm1 hm2 N p6.2 1 0))) (kwd_bind (kW_X7_throwNull N p1.2) (fun p32 => (kwd_bind (kW_X0_newCells N p32.2 2) (fun p36 => (kwd_some (rfl)))))))))
theorem kW_X7_rowHead (N : Nat) (E1 : CS → Option (Unit × CS)) (E2 : CS → Option (Int32 × CS)) (hm1 : ∀ σ, Kwd (pWd σ) (E1 σ)) (hm2 : ∀ σ, Kwd (pWd σ) (E2 σ)) (σ : CS) (x1 : Int64) : Kwd (pWd σ) (f_X7_rowHead N E1 E2 σ x1) := by
  unfold f_X7_rowHead
  exact (kwd_bind (kW_X0_newTarget N σ) (fun p1 => (kwd_bind (kW_X0_newTarget N p1.2) (fun p5 => (kwd_bind (kW_X9_advance N p5.2) (fun p9 => (kwd_bind (kW_X7_rowValues N E1 E2 hm1 hm2 p9.2) (fun p13 => (kwd_bind (kW_X1_close N p13.2 41) (fun p17 => (kwd_bind (kW_X0_aim N p17.2 p1.1) (fun p21 => (kwd_bind (kW_X0_add N p21.2 37 p13.1) (fun p25 => (kwd_bind (kW_X0_add N p25.2 31 p5.1) (fun p29 => (kwd_bind (kW_X0_add N p29.2 51 0) (fun p33 => (kwd_bind (kW_X0_add N p33.2 38 p13.1) (fun p37 => (kwd_bind (kW_X7_tell N p37.2 x1) (fun p41 => (kwd_bind (kW_X0_add N p41.2 2 p41.1) (fun p45 => (kwd_bind (kW_X7_pushLoop N p45.2 304 p1.1 p5.1) (fun p49 => (kwd_oc (kwd_some (rfl)) (fun a54 => (kwd_some (rfl))))))))))))))))))))))))))))))
theorem kW_X7_changeHere (N : Nat) (E1 : CS → Option (Unit × CS)) (E2 : CS → Option (Int32 × CS)) (hm1 : ∀ σ, Kwd (pWd σ) (E1 σ)) (hm2 : ∀ σ, Kwd (pWd σ) (E2 σ)) (σ : CS) (x1 : Int32) : Kwd (pWd σ) (f_X7_changeHere N E1 E2 σ x1) := by
  unfold f_X7_changeHere
  exact (kwd_bind (kW_X9_advance N σ) (fun p1 => (kwd_bind (kW_X7_change N E1 E2 hm1 hm2 p1.2 σ.l (σ.i 44) x1) (fun p5 => (kwd_some (rfl))))))
theorem kW_X7_forHead_113 (N : Nat) (E1 : CS → Option (Unit × CS)) (E2 : CS → Option (Int32 × CS)) (hm1 : ∀ σ, Kwd (pWd σ) (E1 σ)) (hm2 : ∀ σ, Kwd (pWd σ) (E2 σ)) (σ : CS) (x1 : Int32) (x2 : Int32) (x3 : Int32) (x4 : Int32) (x5 : Int32) : Kwd (pWd σ) (f_X7_forHead_113 N E1 E2 σ x1 x2 x3 x4 x5) := by
  unfold f_X7_forHead_113
  exact (kwd_bind (kW_X1_close N σ 41) (fun p47 => (kwd_bind (kW_X0_add N p47.2 30 x1) (fun p51 => (kwd_bind (kW_X0_aim N p51.2 x3) (fun p55 => (kwd_bind (kW_X0_add N p55.2 51 0) (fun p59 => (kwd_bind (kW_X7_pushLoop N p59.2 207 x2 x4) (fun p63 => (kwd_oc kwd_none (fun a68 => (kwd_ite (kwd_ite (kwd_some (rfl)) kwd_none) kwd_none)))))))))))))
theorem kW_X7_forHead_76 (N : Nat) (E1 : CS → Option (Unit × CS)) (E2 : CS → Option (Int32 × CS)) (hm1 : ∀ σ, Kwd (pWd σ) (E1 σ)) (hm2 : ∀ σ, Kwd (pWd σ) (E2 σ)) (σ : CS) (x1 : Int32) (x2 : Int32) (x3 : Int32) (x4 : Int32) (x5 : Int32) : Kwd (pWd σ) (f_X7_forHead_76 N E1 E2 σ x1 x2 x3 x4 x5) := by
  unfold f_X7_forHead_76
  exact (kwd_bind (kW_X0_add N σ 30 x3) (fun p30 => (kwd_bind (kW_X1_expect N p30.2 59) (fun p34 => (kwd_bind (kW_X0_aim N p34.2 x2) (fun p38 => (kwd_bind (kW_X1_found N p38.2 2) (fun p42 => (kwd_ite (kW_X7_forHead_113 N E1 E2 hm1 hm2 p42.2 x1 x2 x3 x4 x5) (kwd_bind (kW_X7_changeHere N E1 E2 hm1 hm2 p42.2 1) (fun p71 => (kW_X7_forHead_113 N E1 E2 hm1 hm2 p71.2 x1 x2 x3 x4 x5))))))))))))
theorem kW_X7_forHead (N : Nat) (E1 : CS → Option (Unit × CS)) (E2 : CS → Option (Int32 × CS)) (hm1 : ∀ σ, Kwd (pWd σ) (E1 σ)) (hm2 : ∀ σ, Kwd (pWd σ) (E2 σ)) (σ : CS) : Kwd (pWd σ) (f_X7_forHead N E1 E2 σ) := by
  unfold f_X7_forHead
  exact (kwd_bind (kW_X0_newTarget N σ) (fun p1 => (kwd_bind (kW_X0_newTarget N p1.2) (fun p5 => (kwd_bind (kW_X0_newTarget N p5.2) (fun p9 => (kwd_bind (kW_X0_newTarget N p9.2) (fun p13 => (kwd_bind (kW_X1_expect N p13.2 59) (fun p17 => (kwd_bind (kW_X0_aim N p17.2 p1.1) (fun p21 => (kwd_bind (kW_X1_found N p21.2 59) (fun p25 => (kwd_ite (kwd_bind (kW_X1_condition N E1 E2 hm1 hm2 p25.2) (fun p75 => (kwd_bind (kW_X0_add N p75.2 31 p13.1) (fun p79 => (kW_X7_forHead_76 N E1 E2 hm1 hm2 p79.2 p1.1 p5.1 p9.1 p13.1 p75.1))))) (kW_X7_forHead_76 N E1 E2 hm1 hm2 p25.2 p1.1 p5.1 p9.1 p13.1 1))))))))))))))))
theorem kW_X7_beginFor_85 (N : Nat) (E1 : CS → Option (Unit × CS)) (E2 : CS → Option (Int32 × CS)) (hm1 : ∀ σ, Kwd (pWd σ) (E1 σ)) (hm2 : ∀ σ, Kwd (pWd σ) (E2 σ)) (σ : CS) (x1 : Int32) (x2 : Option Nat) : Kwd (pWd σ) (f_X7_beginFor_85 N E1 E2 σ x1 x2) := by
  unfold f_X7_beginFor_85
  exact (kwd_oc kwd_none (fun a26 => (kwd_ite (kwd_some (rfl)) kwd_none)))
theorem kW_X7_beginFor_80 (N : Nat) (E1 : CS → Option (Unit × CS)) (E2 : CS → Option (Int32 × CS)) (hm1 : ∀ σ, Kwd (pWd σ) (E1 σ)) (hm2 : ∀ σ, Kwd (pWd σ) (E2 σ)) (σ : CS) (x1 : Int32) : Kwd (pWd σ) (f_X7_beginFor_80 N E1 E2 σ x1) := by
  unfold f_X7_beginFor_80
  exact (kwd_bind (kW_X7_forHead N E1 E2 hm1 hm2 σ) (fun p19 => (kwd_oc (kW_X7_beginFor_85 N E1 E2 hm1 hm2 p19.2 x1 none) (fun a24 => (kW_X7_beginFor_85 N E1 E2 hm1 hm2 p19.2 x1 (some a24))))))
theorem kW_X7_beginFor_64 (N : Nat) (E1 : CS → Option (Unit × CS)) (E2 : CS → Option (Int32 × CS)) (hm1 : ∀ σ, Kwd (pWd σ) (E1 σ)) (hm2 : ∀ σ, Kwd (pWd σ) (E2 σ)) (σ : CS) (x1 : Int32) (x2 : Option Nat) : Kwd (pWd σ) (f_X7_beginFor_64 N E1 E2 σ x1 x2) := by
  unfold f_X7_beginFor_64
  exact (kW_X7_beginFor_85 N E1 E2 hm1 hm2 σ x1 x2)
theorem kW_X7_beginFor (N : Nat) (E1 : CS → Option (Unit × CS)) (E2 : CS → Option (Int32 × CS)) (hm1 : ∀ σ, Kwd (pWd σ) (E1 σ)) (hm2 : ∀ σ, Kwd (pWd σ) (E2 σ)) (σ : CS) : Kwd (pWd σ) (f_X7_beginFor N E1 E2 σ) := by
  unfold f_X7_beginFor
  exact (kwd_bind (kW_X9_advance N σ) (fun p1 => (kwd_bind (kW_X1_open N p1.2 40) (fun p5 => (kwd_bind (kW_X1_skip N p5.2 200) (fun p9 => (kwd_ite (kwd_bind (kW_X1_found N p9.2 2) (fun p14 => (kwd_ite (kW_X7_beginFor_80 N E1 E2 hm1 hm2 p14.2 (σ.i 50)) (kwd_bind (kW_X7_changeHere N E1 E2 hm1 hm2 p14.2 0) (fun p28 => (kW_X7_beginFor_80 N E1 E2 hm1 hm2 p28.2 (σ.i 50))))))) (kwd_bind (kW_X7_newName N p9.2) (fun p32 => (kwd_bind (kW_X1_found N p32.2 58) (fun p36 => (kwd_ite (kwd_bind (kW_X7_define N E1 E2 hm1 hm2 p36.2 p32.1) (fun p41 => (kwd_bind (kW_X7_forHead N E1 E2 hm1 hm2 p41.2) (fun p45 => (kwd_oc (kW_X7_beginFor_64 N E1 E2 hm1 hm2 p45.2 (σ.i 50) none) (fun a50 => (kW_X7_beginFor_64 N E1 E2 hm1 hm2 p45.2 (σ.i 50) (some a50)))))))) (kwd_bind (kW_X7_rowHead N E1 E2 hm1 hm2 p36.2 p32.1) (fun p51 => (kwd_oc (kW_X7_beginFor_64 N E1 E2 hm1 hm2 p51.2 (σ.i 50) none) (fun a56 => (kW_X7_beginFor_64 N E1 E2 hm1 hm2 p51.2 (σ.i 50) (some a56))))))))))))))))))
theorem kW_X7_beginLock_58 (N : Nat) (σ : CS) : Kwd (pWd σ) (f_X7_beginLock_58 N σ ) := by
  unfold f_X7_beginLock_58
  exact (kwd_bind (kW_X1_close N σ 41) (fun p22 => (kwd_bind (kW_X1_open N p22.2 123) (fun p26 => (kwd_bind (kW_X6_push N p26.2 212 (p26.2.i 38) (p26.2.i 50)) (fun p30 => (kwd_oc (kwd_bind (kW_X0_newTarget N p30.2) (fun p36 => kwd_none)) (fun a35 => (kwd_bind (kW_X0_newTarget N p30.2) (fun p40 => (kwd_ite (kwd_some (rfl)) kwd_none)))))))))))
theorem kW_X7_beginLock (N : Nat) (σ : CS) : Kwd (pWd σ) (f_X7_beginLock N σ) := by
  unfold f_X7_beginLock
  exact (kwd_bind (kW_X9_advance N σ) (fun p1 => (kwd_bind (kW_X1_open N p1.2 40) (fun p5 => (kwd_bind (kW_X1_found N p5.2 3) (fun p9 => (kwd_ite (kwd_bind (kW_X1_expect N p9.2 224) (fun p14 => (kwd_bind (kW_X7_throwNull N p14.2) (fun p18 => (kW_X7_beginLock_58 N p18.2))))) (kwd_bind (kW_X0_add N p9.2 53 (p9.2.i 45)) (fun p45 => (kwd_bind (kW_X9_advance N p45.2) (fun p49 => (kW_X7_beginLock_58 N p49.2))))))))))))
theorem kW_X7_beginSwitch (N : Nat) (E1 : CS → Option (Unit × CS)) (E2 : CS → Option (Int32 × CS)) (hm1 : ∀ σ, Kwd (pWd σ) (E1 σ)) (hm2 : ∀ σ, Kwd (pWd σ) (E2 σ)) (σ : CS) : Kwd (pWd σ) (f_X7_beginSwitch N E1 E2 σ) := by
  unfold f_X7_beginSwitch
  exact (kwd_bind (kW_X9_advance N σ) (fun p1 => (kwd_bind (kW_X1_open N p1.2 40) (fun p5 => (kwd_bind (kW_X1_expression N E1 E2 hm1 hm2 p5.2) (fun p9 => (kwd_bind (kW_X1_close N p9.2 41) (fun p13 => (kwd_bind (kW_X1_open N p13.2 123) (fun p17 => (kwd_bind (kW_X6_push N p17.2 218 (p17.2.i 38) (p17.2.i 50)) (fun p21 => (kwd_oc (kwd_bind (kW_X0_newTarget N p21.2) (fun p27 => kwd_none)) (fun a26 => (kwd_bind (kW_X0_newTarget N p21.2) (fun p31 => (kwd_ite (kwd_bind (kW_X0_newTarget N (CS.setO p31.2 a26 10 p31.1)) (fun p36 => (kwd_ite (kwd_bind (kW_X0_add N (CS.setO (CS.setO p36.2 a26 9 p36.1) a26 13 (p36.2.i 22)) 30 (CS.o (CS.setO (CS.setO p36.2 a26 9 p36.1) a26 13 (p36.2.i 22)) a26 10)) (fun p41 => (kwd_some (rfl)))) kwd_none))) kwd_none)))))))))))))))))
theorem kW_X7_openResource (N : Nat) (σ : CS) : Kwd (pWd σ) (f_X7_openResource N σ) := by
  unfold f_X7_openResource
  exact (kwd_bind (kW_X1_found N σ 4) (fun p1 => (kwd_ite (kwd_bind (kW_X1_misplaced N p1.2) (fun p14 => (kwd_some (rfl)))) (kwd_bind (kW_X0_add N p1.2 55 (p1.2.i 45)) (fun p6 => (kwd_bind (kW_X9_advance N p6.2) (fun p10 => (kwd_some (rfl)))))))))
theorem kW_X7_beginTry_132 (N : Nat) (σ : CS) : Kwd (pWd σ) (f_X7_beginTry_132 N σ ) := by
  unfold f_X7_beginTry_132
  exact (kwd_bind (kW_X1_open N σ 123) (fun p40 => (kwd_some (rfl))))
theorem kWb_X7_beginTry_106 (N : Nat) (K : CS → Int32 → Option (Unit × CS)) (hMK : ∀ (σ : CS) (x2 : Int32), Kwd (pWd σ) (K σ x2)) (σ : CS) (x2 : Int32) : Kwd (pWd σ) (b_X7_beginTry_106 N K σ x2) := by
  unfold b_X7_beginTry_106
  exact (kwd_ite (kW_X7_beginTry_132 N σ) (kwd_bind (kW_X1_skip N σ 44) (fun p50 => (kwd_ite (kW_X7_beginTry_132 N p50.2) (kwd_bind (kW_X7_openResource N p50.2) (fun p55 => (hMK p55.2 (x2 + 1))))))))
theorem kW_X7_beginTry_106 (N : Nat) : ∀ (n : Nat) (σ : CS) (x2 : Int32), Kwd (pWd σ) (f_X7_beginTry_106 N n σ x2)
  | 0, _, _ => kwd_none
  | n+1, σ, x2 => kWb_X7_beginTry_106 N (f_X7_beginTry_106 N n) (fun σ x2 => kW_X7_beginTry_106 N n σ x2) σ x2
theorem kW_X7_beginTry (N : Nat) (σ : CS) : Kwd (pWd σ) (f_X7_beginTry N σ) := by
  unfold f_X7_beginTry
  exact (kwd_bind (kW_X6_push N σ 213 (σ.i 38) (σ.i 50)) (fun p1 => (kwd_oc (kwd_bind (kW_X0_newTarget N p1.2) (fun p7 => kwd_none)) (fun a6 => (kwd_bind (kW_X0_newTarget N p1.2) (fun p11 => (kwd_ite (kwd_bind (kW_X0_newTarget N (CS.setO p11.2 a6 10 p11.1)) (fun p16 => (kwd_ite (kwd_bind (kW_X0_newTarget N (CS.setO p16.2 a6 11 p16.1)) (fun p21 => (kwd_ite (kwd_bind (kW_X9_advance N (CS.setO p21.2 a6 9 p21.1)) (fun p26 => (kwd_ite (kwd_bind (kW_X0_add N p26.2 54 (CS.o p26.2 a6 10)) (fun p31 => (kwd_bind (kW_X1_skip N (CS.setI p31.2 38 ((p31.2.i 38) + 1)) 214) (fun p35 => (kwd_ite (kW_X7_beginTry_132 N p35.2) (kwd_ite (kwd_bind (kW_X7_openResource N (CS.setO p35.2 a6 8 1)) (fun p45 => (kW_X7_beginTry_106 N N p45.2 0))) kwd_none)))))) kwd_none))) kwd_none))) kwd_none))) kwd_none)))))))
theorem kW_X7_compound (N : Nat) (E1 : CS → Option (Unit × CS)) (E2 : CS → Option (Int32 × CS)) (hm1 : ∀ σ, Kwd (pWd σ) (E1 σ)) (hm2 : ∀ σ, Kwd (pWd σ) (E2 σ)) (σ : CS) : Kwd (pWd σ) (f_X7_compound N E1 E2 σ) := by
  unfold f_X7_compound
  exact (kwd_ite (kwd_bind (kW_X7_beginIf N E1 E2 hm1 hm2 σ) (fun p2 => (kwd_some (rfl)))) (kwd_ite (kwd_bind (kW_X1_misplaced N σ) (fun p7 => (kwd_some (rfl)))) (kwd_ite (kwd_bind (kW_X7_beginWhile N E1 E2 hm1 hm2 σ) (fun p12 => (kwd_some (rfl)))) (kwd_ite (kwd_bind (kW_X7_beginDo N σ) (fun p17 => (kwd_some (rfl)))) (kwd_ite (kwd_bind (kW_X7_beginFor N E1 E2 hm1 hm2 σ) (fun p22 => (kwd_some (rfl)))) (kwd_ite (kwd_bind (kW_X1_misplaced N σ) (fun p27 => (kwd_some (rfl)))) (kwd_ite (kwd_bind (kW_X1_misplaced N σ) (fun p32 => (kwd_some (rfl)))) (kwd_ite (kwd_bind (kW_X1_misplaced N σ) (fun p37 => (kwd_some (rfl)))) (kwd_ite (kwd_bind (kW_X1_misplaced N σ) (fun p42 => (kwd_some (rfl)))) (kwd_ite (kwd_bind (kW_X7_beginLock N σ) (fun p47 => (kwd_some (rfl)))) (kwd_ite (kwd_bind (kW_X7_beginTry N σ) (fun p52 => (kwd_some (rfl)))) (kwd_ite (kwd_bind (kW_X1_misplaced N σ) (fun p57 => (kwd_some (rfl)))) (kwd_ite (kwd_bind (kW_X1_misplaced N σ) (fun p62 => (kwd_some (rfl)))) (kwd_ite (kwd_bind (kW_X1_misplaced N σ) (fun p67 => (kwd_some (rfl)))) (kwd_ite (kwd_bind (kW_X1_misplaced N σ) (fun p72 => (kwd_some (rfl)))) (kwd_ite (kwd_bind (kW_X7_beginSwitch N E1 E2 hm1 hm2 σ) (fun p77 => (kwd_some (rfl)))) (kwd_bind (kW_X1_misplaced N σ) (fun p81 => (kwd_some (rfl))))))))))))))))))))
theorem kW_X7_plain (N : Nat) (E1 : CS → Option (Unit × CS)) (E2 : CS → Option (Int32 × CS)) (hm1 : ∀ σ, Kwd (pWd σ) (E1 σ)) (hm2 : ∀ σ, Kwd (pWd σ) (E2 σ)) (σ : CS) : Kwd (pWd σ) (f_X7_plain N E1 E2 σ) := by
  unfold f_X7_plain
  exact (kwd_ite (kwd_bind (kW_X9_advance N σ) (fun p2 => (kwd_some (rfl)))) (kwd_ite (kwd_bind (kW_X9_advance N σ) (fun p7 => (kwd_bind (kW_X7_newName N p7.2) (fun p11 => (kwd_bind (kW_X7_define N E1 E2 hm1 hm2 p11.2 p11.1) (fun p15 => (kwd_bind (kW_X1_expect N p15.2 59) (fun p19 => (kwd_some (rfl)))))))))) (kwd_ite (kwd_bind (kW_X9_advance N σ) (fun p24 => (kwd_bind (kW_X7_newName N p24.2) (fun p28 => (kwd_bind (kW_X7_define N E1 E2 hm1 hm2 p28.2 p28.1) (fun p32 => (kwd_bind (kW_X1_expect N p32.2 59) (fun p36 => (kwd_some (rfl)))))))))) (kwd_ite (kwd_bind (kW_X9_advance N σ) (fun p41 => (kwd_bind (kW_X1_expression N E1 E2 hm1 hm2 p41.2) (fun p45 => (kwd_bind (kW_X0_add N p45.2 52 0) (fun p49 => (kwd_bind (kW_X1_expect N p49.2 59) (fun p53 => (kwd_some (rfl)))))))))) (kwd_ite (kwd_bind (kW_X7_jump N σ) (fun p58 => (kwd_some (rfl)))) (kwd_ite (kwd_bind (kW_X7_jump N σ) (fun p63 => (kwd_some (rfl)))) (kwd_ite (kwd_bind (kW_X7_giveBack N E1 E2 hm1 hm2 σ) (fun p68 => (kwd_some (rfl)))) (kwd_ite (kwd_bind (kW_X7_throwOne N E1 E2 hm1 hm2 σ) (fun p73 => (kwd_some (rfl)))) (kwd_ite (kwd_bind (kW_X7_claim N E1 E2 hm1 hm2 σ) (fun p78 => (kwd_some (rfl)))) (kwd_ite (kwd_bind (kW_X7_yieldValue N E1 E2 hm1 hm2 σ) (fun p83 => (kwd_some (rfl)))) (kwd_bind (kW_X7_compound N E1 E2 hm1 hm2 σ) (fun p87 => (kwd_some (rfl))))))))))))))
theorem kW_X7_statement_122 (N : Nat) (E1 : CS → Option (Unit × CS)) (E2 : CS → Option (Int32 × CS)) (hm1 : ∀ σ, Kwd (pWd σ) (E1 σ)) (hm2 : ∀ σ, Kwd (pWd σ) (E2 σ)) (σ : CS) : Kwd (pWd σ) (f_X7_statement_122 N E1 E2 σ ) := by
  unfold f_X7_statement_122
  exact (kwd_bind (kW_X0_add N σ 51 0) (fun p13 => (kwd_bind (kW_X7_plain N E1 E2 hm1 hm2 p13.2) (fun p17 => (kwd_some (rfl))))))
theorem kW_X7_statement_115 (N : Nat) (E1 : CS → Option (Unit × CS)) (E2 : CS → Option (Int32 × CS)) (hm1 : ∀ σ, Kwd (pWd σ) (E1 σ)) (hm2 : ∀ σ, Kwd (pWd σ) (E2 σ)) (σ : CS) : Kwd (pWd σ) (f_X7_statement_115 N E1 E2 σ ) := by
  unfold f_X7_statement_115
  exact (kwd_bind (kW_X1_misplaced N σ) (fun p26 => (kwd_some (rfl))))
theorem kW_X7_statement_18 (N : Nat) (E1 : CS → Option (Unit × CS)) (E2 : CS → Option (Int32 × CS)) (hm1 : ∀ σ, Kwd (pWd σ) (E1 σ)) (hm2 : ∀ σ, Kwd (pWd σ) (E2 σ)) (σ : CS) (x1 : Int32) : Kwd (pWd σ) (f_X7_statement_18 N E1 E2 σ x1) := by
  unfold f_X7_statement_18
  exact (kwd_bind (kW_X1_found N (CS.setI (CS.setI σ 36 1) 24 ((σ.i 24) + 1)) 2) (fun p2 => (kwd_ite (kwd_bind (kW_X1_found N p2.2 123) (fun p7 => (kwd_ite (kwd_ite (kW_X7_statement_122 N E1 E2 hm1 hm2 p7.2) (kwd_bind (kW_X1_found N p7.2 200) (fun p21 => (kwd_ite (kwd_bind (kW_X1_found N p21.2 201) (fun p30 => (kwd_ite (kW_X7_statement_122 N E1 E2 hm1 hm2 p30.2) (kW_X7_statement_115 N E1 E2 hm1 hm2 p30.2)))) (kW_X7_statement_115 N E1 E2 hm1 hm2 p21.2))))) (kwd_bind (kW_X1_open N p7.2 123) (fun p35 => (kwd_bind (kW_X6_push N p35.2 301 (p35.2.i 38) (p35.2.i 50)) (fun p39 => (kwd_oc (kwd_some (rfl)) (fun a44 => (kwd_some (rfl))))))))))) (kwd_bind (kW_X7_named N E1 E2 hm1 hm2 p2.2) (fun p45 => (kwd_some (rfl)))))))
theorem kW_X7_statement (N : Nat) (E1 : CS → Option (Unit × CS)) (E2 : CS → Option (Int32 × CS)) (hm1 : ∀ σ, Kwd (pWd σ) (E1 σ)) (hm2 : ∀ σ, Kwd (pWd σ) (E2 σ)) (σ : CS) (x1 : Int32) : Kwd (pWd σ) (f_X7_statement N E1 E2 σ x1) := by
  unfold f_X7_statement
  exact (kwd_ite (kwd_bind (kW_X7_notReached N σ (σ.i 44)) (fun p49 => (kW_X7_statement_18 N E1 E2 hm1 hm2 p49.2 x1))) (kW_X7_statement_18 N E1 E2 hm1 hm2 σ x1))
theorem kW_X7_bodyTurn (N : Nat) (E1 : CS → Option (Unit × CS)) (E2 : CS → Option (Int32 × CS)) (hm1 : ∀ σ, Kwd (pWd σ) (E1 σ)) (hm2 : ∀ σ, Kwd (pWd σ) (E2 σ)) (σ : CS) (x1 : Nat) : Kwd (pWd σ) (f_X7_bodyTurn N E1 E2 σ x1) := by
  unfold f_X7_bodyTurn
  exact (kwd_ite (kwd_ite (kwd_bind (kW_X7_statement N E1 E2 hm1 hm2 (CS.setO σ x1 5 1) 1) (fun p3 => (kwd_some (rfl)))) (kwd_bind (kW_X7_endBody N E1 E2 hm1 hm2 σ x1) (fun p7 => (kwd_some (rfl))))) kwd_none)
theorem kW_X10_isUnder_38 (N : Nat) (σ : CS) : Kwd (pWd σ) (f_X10_isUnder_38 N σ ) := by
  unfold f_X10_isUnder_38
  exact (kwd_some (rfl))
theorem kWb_X10_isUnder_5 (N : Nat) (K : CS → Int32 → Int32 → Int32 → Option (Int32 × CS)) (hMK : ∀ (σ : CS) (x2 : Int32) (x3 : Int32) (x4 : Int32), Kwd (pWd σ) (K σ x2 x3 x4)) (σ : CS) (x2 : Int32) (x3 : Int32) (x4 : Int32) : Kwd (pWd σ) (b_X10_isUnder_5 N K σ x2 x3 x4) := by
  unfold b_X10_isUnder_5
  exact (kwd_ite (kW_X10_isUnder_38 N σ) (kwd_ite (kW_X10_isUnder_38 N σ) (kwd_ite (kwd_some (rfl)) (hMK σ x2 (gAt (σ.a 9) 12 x3) (x4 + 1)))))
theorem kW_X10_isUnder_5 (N : Nat) : ∀ (n : Nat) (σ : CS) (x2 : Int32) (x3 : Int32) (x4 : Int32), Kwd (pWd σ) (f_X10_isUnder_5 N n σ x2 x3 x4)
  | 0, _, _, _, _ => kwd_none
  | n+1, σ, x2, x3, x4 => kWb_X10_isUnder_5 N (f_X10_isUnder_5 N n) (fun σ x2 x3 x4 => kW_X10_isUnder_5 N n σ x2 x3 x4) σ x2 x3 x4
theorem kW_X10_isUnder (N : Nat) (σ : CS) (x1 : Int32) (x2 : Int32) : Kwd (pWd σ) (f_X10_isUnder N σ x1 x2) := by
  unfold f_X10_isUnder
  exact (kW_X10_isUnder_5 N N σ x2 x1 0)
theorem kWb_X7_caughtKind_47 (N : Nat) (K : CS → Nat → Int32 → Int32 → Int32 → Option (Unit × CS)) (hMK : ∀ (σ : CS) (x1 : Nat) (x2 : Int32) (x3 : Int32) (x4 : Int32), Kwd (pWd σ) (K σ x1 x2 x3 x4)) (σ : CS) (x1 : Nat) (x2 : Int32) (x3 : Int32) (x4 : Int32) : Kwd (pWd σ) (b_X7_caughtKind_47 N K σ x1 x2 x3 x4) := by
  unfold b_X7_caughtKind_47
  exact (kwd_ite (kwd_ite (kwd_bind (kW_X0_add N (CS.setO σ x1 12 ((CS.o σ x1 12) ||| ((1 : Int32) <<< (x3 &&& 31)))) 56 ((x2 * 16) + x3)) (fun p13 => (kwd_bind (kW_X9_advance N p13.2) (fun p17 => (kwd_some (rfl)))))) kwd_none) (kwd_ite (kwd_ite (kwd_bind (kW_X10_isUnder N σ x3 x4) (fun p23 => (kwd_ite (hMK p23.2 x1 x2 x3 (x4 + 1)) (kwd_bind (kW_X1_fail N p23.2 6 (p23.2.i 44)) (fun p28 => (hMK p28.2 x1 x2 x3 (x4 + 1))))))) (hMK σ x1 x2 x3 (x4 + 1))) kwd_none))
theorem kW_X7_caughtKind_47 (N : Nat) : ∀ (n : Nat) (σ : CS) (x1 : Nat) (x2 : Int32) (x3 : Int32) (x4 : Int32), Kwd (pWd σ) (f_X7_caughtKind_47 N n σ x1 x2 x3 x4)
  | 0, _, _, _, _, _ => kwd_none
  | n+1, σ, x1, x2, x3, x4 => kWb_X7_caughtKind_47 N (f_X7_caughtKind_47 N n) (fun σ x1 x2 x3 x4 => kW_X7_caughtKind_47 N n σ x1 x2 x3 x4) σ x1 x2 x3 x4
theorem kW_X7_caughtKind_44 (N : Nat) (σ : CS) (x1 : Nat) (x2 : Int32) (x3 : Int32) : Kwd (pWd σ) (f_X7_caughtKind_44 N σ x1 x2 x3) := by
  unfold f_X7_caughtKind_44
  exact (kW_X7_caughtKind_47 N N σ x1 x2 x3 0)
theorem kW_X7_caughtKind (N : Nat) (σ : CS) (x1 : Nat) (x2 : Int32) : Kwd (pWd σ) (f_X7_caughtKind N σ x1 x2) := by
  unfold f_X7_caughtKind
  exact (kwd_bind (kW_X1_found N σ 5) (fun p1 => (kwd_ite (kwd_bind (kW_X1_misplaced N p1.2) (fun p36 => (kwd_some (rfl)))) (kwd_bind (kW_X10_isKind N p1.2 (p1.2.i 45)) (fun p6 => (kwd_ite (kwd_bind (kW_X1_fail N p6.2 3 (p6.2.i 44)) (fun p32 => (kW_X7_caughtKind_44 N p32.2 x1 x2 (p1.2.i 45)))) (kW_X7_caughtKind_44 N p6.2 x1 x2 (p1.2.i 45))))))))
theorem kW_X7_beginCatch_80 (N : Nat) (σ : CS) (x1 : Nat) (x2 : Int32) : Kwd (pWd σ) (f_X7_beginCatch_80 N σ x1 x2) := by
  unfold f_X7_beginCatch_80
  exact (kwd_bind (kW_X0_newCells N σ 1) (fun p24 => (kwd_bind (kW_X7_newName N p24.2) (fun p28 => (kwd_bind (kW_X4_add N p28.2 p28.1 p24.1 ((p28.2.i 38) - 1)) (fun p32 => (kwd_bind (kW_X1_close N p32.2 41) (fun p36 => (kwd_bind (kW_X1_open N p36.2 123) (fun p40 => (kwd_ite (kwd_bind (kW_X0_add N p40.2 30 (CS.o p40.2 x1 10)) (fun p45 => (kwd_bind (kW_X0_aim N p45.2 x2) (fun p49 => (kwd_bind (kW_X0_add N p49.2 57 p24.1) (fun p53 => (kwd_some (rfl)))))))) kwd_none)))))))))))
theorem kWb_X7_beginCatch_52 (N : Nat) (K : CS → Nat → Int32 → Int32 → Option (Unit × CS)) (hMK : ∀ (σ : CS) (x1 : Nat) (x2 : Int32) (x3 : Int32), Kwd (pWd σ) (K σ x1 x2 x3)) (σ : CS) (x1 : Nat) (x2 : Int32) (x3 : Int32) : Kwd (pWd σ) (b_X7_beginCatch_52 N K σ x1 x2 x3) := by
  unfold b_X7_beginCatch_52
  exact (kwd_ite (kW_X7_beginCatch_80 N σ x1 x2) (kwd_bind (kW_X1_skip N σ 124) (fun p57 => (kwd_ite (kW_X7_beginCatch_80 N p57.2 x1 x2) (kwd_bind (kW_X7_caughtKind N p57.2 x1 x2) (fun p62 => (hMK p62.2 x1 x2 (x3 + 1))))))))
theorem kW_X7_beginCatch_52 (N : Nat) : ∀ (n : Nat) (σ : CS) (x1 : Nat) (x2 : Int32) (x3 : Int32), Kwd (pWd σ) (f_X7_beginCatch_52 N n σ x1 x2 x3)
  | 0, _, _, _, _ => kwd_none
  | n+1, σ, x1, x2, x3 => kWb_X7_beginCatch_52 N (f_X7_beginCatch_52 N n) (fun σ x1 x2 x3 => kW_X7_beginCatch_52 N n σ x1 x2 x3) σ x1 x2 x3
theorem kW_X7_beginCatch (N : Nat) (σ : CS) (x1 : Nat) : Kwd (pWd σ) (f_X7_beginCatch N σ x1) := by
  unfold f_X7_beginCatch
  exact (kwd_bind (kW_X0_newTarget N σ) (fun p1 => (kwd_ite (kwd_bind (kW_X0_newTarget N (CS.setO (CS.setO p1.2 x1 0 215) x1 8 1)) (fun p6 => (kwd_ite (kwd_bind (kW_X9_advance N (CS.setO p6.2 x1 10 p6.1)) (fun p11 => (kwd_bind (kW_X1_open N p11.2 40) (fun p15 => (kwd_bind (kW_X7_caughtKind N p15.2 x1 p1.1) (fun p19 => (kW_X7_beginCatch_52 N N p19.2 x1 p1.1 0))))))) kwd_none))) kwd_none)))
theorem kW_X7_beginFinally (N : Nat) (σ : CS) (x1 : Nat) : Kwd (pWd σ) (f_X7_beginFinally N σ x1) := by
  unfold f_X7_beginFinally
  exact (kwd_ite (kwd_bind (kW_X9_advance N (CS.setO (CS.setO σ x1 0 216) x1 15 (σ.i 55))) (fun p2 => (kwd_bind (kW_X1_open N p2.2 123) (fun p6 => (kwd_bind (kW_X0_add N p6.2 58 0) (fun p10 => (kwd_ite (kwd_bind (kW_X0_aim N p10.2 (CS.o p10.2 x1 11)) (fun p15 => (kwd_some (rfl)))) kwd_none))))))) kwd_none)
theorem kW_X7_endLock (N : Nat) (σ : CS) (x1 : Nat) : Kwd (pWd σ) (f_X7_endLock N σ x1) := by
  unfold f_X7_endLock
  exact (kwd_ite (kwd_bind (kW_X7_leave N σ (CS.o σ x1 9) (CS.o σ x1 2)) (fun p2 => (kwd_ite (kwd_bind (kW_X0_aim N p2.2 (CS.o p2.2 x1 9)) (fun p7 => (kwd_bind (kW_X6_pop N (CS.setI p7.2 38 ((p7.2.i 38) - 1))) (fun p11 => (kwd_some (rfl)))))) kwd_none))) kwd_none)
theorem kW_X7_endSwitch_99 (N : Nat) (σ : CS) : Kwd (pWd σ) (f_X7_endSwitch_99 N σ ) := by
  unfold f_X7_endSwitch_99
  exact (kwd_bind (kW_X6_pop N σ) (fun p23 => (kwd_some (rfl))))
theorem kW_X7_endSwitch_53 (N : Nat) (σ : CS) (x1 : Nat) : Kwd (pWd σ) (f_X7_endSwitch_53 N σ x1) := by
  unfold f_X7_endSwitch_53
  exact (kwd_ite (kwd_bind (kW_X0_aim N σ (CS.o σ x1 9)) (fun p18 => (kwd_ite (kwd_ite (kwd_ite (kW_X7_endSwitch_99 N (CS.setI p18.2 36 1)) (kwd_bind (kW_X6_isGoneTo N p18.2 x1 0) (fun p29 => (kwd_ite (kW_X7_endSwitch_99 N (CS.setI p29.2 36 0)) (kW_X7_endSwitch_99 N (CS.setI p29.2 36 1)))))) kwd_none) (kW_X7_endSwitch_99 N (CS.setI p18.2 36 1))))) kwd_none)
theorem kW_X7_endSwitch (N : Nat) (σ : CS) (x1 : Nat) : Kwd (pWd σ) (f_X7_endSwitch N σ x1) := by
  unfold f_X7_endSwitch
  exact (kwd_ite (kwd_bind (kW_X0_add N σ 30 (CS.o σ x1 9)) (fun p2 => (kwd_ite (kwd_bind (kW_X0_aim N p2.2 (CS.o p2.2 x1 10)) (fun p7 => (kwd_ite (kwd_ite (kwd_bind (kW_X0_addCases N p7.2 (CS.o p7.2 x1 13) (CS.o p7.2 x1 9)) (fun p13 => (kW_X7_endSwitch_53 N p13.2 x1))) (kwd_bind (kW_X0_addCases N p7.2 (CS.o p7.2 x1 13) (CS.o p7.2 x1 11)) (fun p34 => (kW_X7_endSwitch_53 N p34.2 x1)))) kwd_none))) kwd_none))) kwd_none)
theorem kW_X7_endGuarded_66 (N : Nat) (σ : CS) (x1 : Nat) : Kwd (pWd σ) (f_X7_endGuarded_66 N σ x1) := by
  unfold f_X7_endGuarded_66
  exact (kwd_ite (kwd_some (rfl)) kwd_none)
theorem kW_X7_endGuarded_46 (N : Nat) (σ : CS) (x1 : Nat) : Kwd (pWd σ) (f_X7_endGuarded_46 N σ x1) := by
  unfold f_X7_endGuarded_46
  exact (kwd_bind (kW_X1_found N σ 215) (fun p13 => (kwd_ite (kwd_bind (kW_X1_found N p13.2 216) (fun p19 => (kwd_ite (kwd_ite (kwd_ite (kwd_bind (kW_X1_misplaced N p19.2) (fun p26 => (kwd_some (rfl)))) (kwd_bind (kW_X0_add N p19.2 58 0) (fun p30 => (kwd_ite (kwd_bind (kW_X0_aim N p30.2 (CS.o p30.2 x1 9)) (fun p35 => (kwd_ite (kwd_ite (kwd_bind (kW_X6_pop N (CS.setI (CS.setI p35.2 36 (CS.o p35.2 x1 6)) 38 ((p35.2.i 38) - 1))) (fun p41 => (kwd_some (rfl)))) kwd_none) kwd_none))) kwd_none)))) kwd_none) (kW_X7_endGuarded_66 N p19.2 x1)))) (kW_X7_endGuarded_66 N p13.2 x1))))
theorem kW_X7_endGuarded (N : Nat) (σ : CS) (x1 : Nat) : Kwd (pWd σ) (f_X7_endGuarded N σ x1) := by
  unfold f_X7_endGuarded
  exact (kwd_ite (kwd_bind (kW_X7_leave N σ (CS.o σ x1 9) (CS.o σ x1 2)) (fun p2 => (kwd_ite (kwd_bind (kW_X0_aim N p2.2 (CS.o p2.2 x1 10)) (fun p7 => (kwd_ite (kwd_ite (kwd_ite (kW_X7_endGuarded_46 N (CS.setO p7.2 x1 6 0) x1) (kW_X7_endGuarded_46 N (CS.setO p7.2 x1 6 1) x1)) (kW_X7_endGuarded_46 N (CS.setO p7.2 x1 6 1) x1)) kwd_none))) kwd_none))) kwd_none)
theorem kWb_X6_loseJumps_2 (N : Nat) (K : CS → Int32 → Int32 → Option (Unit × CS)) (hMK : ∀ (σ : CS) (x2 : Int32) (x3 : Int32), Kwd (pWd σ) (K σ x2 x3)) (σ : CS) (x2 : Int32) (x3 : Int32) : Kwd (pWd σ) (b_X6_loseJumps_2 N K σ x2 x3) := by
  unfold b_X6_loseJumps_2
  exact (kwd_ite (kwd_some (rfl)) (hMK (CS.putA σ 52 (gPut (σ.a 52) 160 x3 0)) x2 (x3 + 1)))
theorem kW_X6_loseJumps_2 (N : Nat) : ∀ (n : Nat) (σ : CS) (x2 : Int32) (x3 : Int32), Kwd (pWd σ) (f_X6_loseJumps_2 N n σ x2 x3)
  | 0, _, _, _ => kwd_none
  | n+1, σ, x2, x3 => kWb_X6_loseJumps_2 N (f_X6_loseJumps_2 N n) (fun σ x2 x3 => kW_X6_loseJumps_2 N n σ x2 x3) σ x2 x3
theorem kW_X6_loseJumps (N : Nat) (σ : CS) (x1 : Int32) (x2 : Int32) : Kwd (pWd σ) (f_X6_loseJumps N σ x1 x2) := by
  unfold f_X6_loseJumps
  exact (kW_X6_loseJumps_2 N N σ x2 x1)
theorem kW_X7_endFinally_66 (N : Nat) (σ : CS) : Kwd (pWd σ) (f_X7_endFinally_66 N σ ) := by
  unfold f_X7_endFinally_66
  exact (kwd_bind (kW_X6_pop N (CS.setI σ 38 ((σ.i 38) - 1))) (fun p12 => (kwd_some (rfl))))
theorem kW_X7_endFinally_43 (N : Nat) (σ : CS) (x1 : Nat) : Kwd (pWd σ) (f_X7_endFinally_43 N σ x1) := by
  unfold f_X7_endFinally_43
  exact (kwd_ite (kW_X7_endFinally_66 N (CS.setI σ 36 0)) (kwd_ite (kwd_ite (kW_X7_endFinally_66 N (CS.setI σ 36 0)) (kW_X7_endFinally_66 N (CS.setI σ 36 1))) kwd_none))
theorem kW_X7_endFinally (N : Nat) (σ : CS) (x1 : Nat) : Kwd (pWd σ) (f_X7_endFinally N σ x1) := by
  unfold f_X7_endFinally
  exact (kwd_bind (kW_X0_add N σ 59 0) (fun p1 => (kwd_ite (kwd_bind (kW_X0_aim N p1.2 (CS.o p1.2 x1 9)) (fun p6 => (kwd_ite (kwd_ite (kwd_bind (kW_X6_loseJumps N p6.2 (CS.o p6.2 x1 14) (CS.o p6.2 x1 15)) (fun p19 => (kW_X7_endFinally_43 N p19.2 x1))) kwd_none) (kW_X7_endFinally_43 N p6.2 x1)))) kwd_none)))
theorem kW_X7_endList_72 (N : Nat) (σ : CS) (x1 : Nat) : Kwd (pWd σ) (f_X7_endList_72 N σ x1) := by
  unfold f_X7_endList_72
  exact (kwd_bind (kW_X1_close N σ 125) (fun p4 => (kwd_ite (kwd_ite (kwd_bind (kW_X7_endLock N (CS.setI p4.2 50 (CS.o p4.2 x1 3)) x1) (fun p10 => (kwd_some (rfl)))) (kwd_ite (kwd_bind (kW_X7_endGuarded N (CS.setI p4.2 50 (CS.o p4.2 x1 3)) x1) (fun p15 => (kwd_some (rfl)))) (kwd_ite (kwd_bind (kW_X6_pop N (CS.setI p4.2 50 (CS.o p4.2 x1 3))) (fun p20 => (kwd_some (rfl)))) (kwd_ite (kwd_bind (kW_X7_endGuarded N (CS.setI p4.2 50 (CS.o p4.2 x1 3)) x1) (fun p25 => (kwd_some (rfl)))) (kwd_ite (kwd_bind (kW_X7_endFinally N (CS.setI p4.2 50 (CS.o p4.2 x1 3)) x1) (fun p30 => (kwd_some (rfl)))) (kwd_ite (kwd_bind (kW_X6_pop N (CS.setI p4.2 50 (CS.o p4.2 x1 3))) (fun p35 => (kwd_some (rfl)))) (kwd_ite (kwd_bind (kW_X7_endSwitch N (CS.setI p4.2 50 (CS.o p4.2 x1 3)) x1) (fun p40 => (kwd_some (rfl)))) (kwd_bind (kW_X6_pop N (CS.setI p4.2 50 (CS.o p4.2 x1 3))) (fun p44 => (kwd_some (rfl))))))))))) kwd_none)))
theorem kW_X7_endList (N : Nat) (σ : CS) (x1 : Nat) : Kwd (pWd σ) (f_X7_endList N σ x1) := by
  unfold f_X7_endList
  exact (kwd_ite (kwd_ite (kwd_bind (kW_X1_expect N σ 0) (fun p53 => (kwd_ite (kwd_bind (kW_X0_add N (CS.setI p53.2 27 (p53.2.i 36)) 50 0) (fun p58 => (kwd_bind (kW_X6_pop N p58.2) (fun p62 => (kwd_some (rfl)))))) kwd_none))) (kwd_ite (kwd_ite (kW_X7_endList_72 N σ x1) (kwd_bind (kW_X7_notReached N σ (σ.i 44)) (fun p49 => (kW_X7_endList_72 N p49.2 x1)))) (kW_X7_endList_72 N σ x1))) kwd_none)
theorem kW_X7_groupTurn_87 (N : Nat) (E1 : CS → Option (Unit × CS)) (E2 : CS → Option (Int32 × CS)) (hm1 : ∀ σ, Kwd (pWd σ) (E1 σ)) (hm2 : ∀ σ, Kwd (pWd σ) (E2 σ)) (σ : CS) (x1 : Nat) (x2 : Int32) : Kwd (pWd σ) (f_X7_groupTurn_87 N E1 E2 σ x1 x2) := by
  unfold f_X7_groupTurn_87
  exact (kwd_bind (kW_X1_expect N σ 58) (fun p21 => (kwd_bind (kW_X0_aim N p21.2 x2) (fun p25 => (kwd_ite (kwd_some (rfl)) kwd_none)))))
theorem kW_X7_groupTurn_59 (N : Nat) (E1 : CS → Option (Unit × CS)) (E2 : CS → Option (Int32 × CS)) (hm1 : ∀ σ, Kwd (pWd σ) (E1 σ)) (hm2 : ∀ σ, Kwd (pWd σ) (E2 σ)) (σ : CS) (x1 : Nat) (x2 : Int32) (x3 : Int32) : Kwd (pWd σ) (f_X7_groupTurn_59 N E1 E2 σ x1 x2 x3) := by
  unfold f_X7_groupTurn_59
  exact (kwd_bind (kW_X9_advance N σ) (fun p15 => (kwd_ite (kwd_ite (kW_X7_groupTurn_87 N E1 E2 hm1 hm2 (CS.setO p15.2 x1 11 x2) x1 x2) kwd_none) (kwd_ite (kwd_bind (kW_X1_caseNumber N p15.2 (CS.o p15.2 x1 13) x2) (fun p31 => (kW_X7_groupTurn_87 N E1 E2 hm1 hm2 p31.2 x1 x2))) kwd_none))))
theorem kW_X7_groupTurn_20 (N : Nat) (E1 : CS → Option (Unit × CS)) (E2 : CS → Option (Int32 × CS)) (hm1 : ∀ σ, Kwd (pWd σ) (E1 σ)) (hm2 : ∀ σ, Kwd (pWd σ) (E2 σ)) (σ : CS) (x1 : Nat) : Kwd (pWd σ) (f_X7_groupTurn_20 N E1 E2 σ x1) := by
  unfold f_X7_groupTurn_20
  exact (kwd_bind (kW_X0_newTarget N σ) (fun p6 => (kwd_bind (kW_X1_found N p6.2 219) (fun p10 => (kwd_ite (kwd_ite (kwd_ite (kW_X7_groupTurn_59 N E1 E2 hm1 hm2 p10.2 x1 p6.1 p10.1) (kwd_bind (kW_X1_fail N p10.2 4 (p10.2.i 44)) (fun p37 => (kW_X7_groupTurn_59 N E1 E2 hm1 hm2 p37.2 x1 p6.1 p10.1)))) kwd_none) (kW_X7_groupTurn_59 N E1 E2 hm1 hm2 p10.2 x1 p6.1 p10.1))))))
theorem kW_X7_groupTurn (N : Nat) (E1 : CS → Option (Unit × CS)) (E2 : CS → Option (Int32 × CS)) (hm1 : ∀ σ, Kwd (pWd σ) (E1 σ)) (hm2 : ∀ σ, Kwd (pWd σ) (E2 σ)) (σ : CS) (x1 : Nat) : Kwd (pWd σ) (f_X7_groupTurn N E1 E2 σ x1) := by
  unfold f_X7_groupTurn
  exact (kwd_bind (kW_X1_found N σ 219) (fun p1 => (kwd_ite (kwd_bind (kW_X1_found N p1.2 220) (fun p41 => (kwd_ite (kwd_ite (kwd_ite (kwd_bind (kW_X1_misplaced N p41.2) (fun p48 => (kwd_some (rfl)))) (kwd_bind (kW_X7_statement N E1 E2 hm1 hm2 p41.2 0) (fun p52 => (kwd_some (rfl))))) kwd_none) (kW_X7_groupTurn_20 N E1 E2 hm1 hm2 p41.2 x1)))) (kW_X7_groupTurn_20 N E1 E2 hm1 hm2 p1.2 x1))))
theorem kWb_X7_turns_2 (N : Nat) (E1 : CS → Option (Unit × CS)) (E2 : CS → Option (Int32 × CS)) (hm1 : ∀ σ, Kwd (pWd σ) (E1 σ)) (hm2 : ∀ σ, Kwd (pWd σ) (E2 σ)) (K : CS → Int32 → Int32 → Option (Unit × CS)) (hMK : ∀ (σ : CS) (x1 : Int32) (x2 : Int32), Kwd (pWd σ) (K σ x1 x2)) (σ : CS) (x1 : Int32) (x2 : Int32) : Kwd (pWd σ) (b_X7_turns_2 N E1 E2 K σ x1 x2) := by
  unfold b_X7_turns_2
  exact (kwd_ite (kwd_ite kwd_none (kwd_some (rfl))) (kwd_ite (kwd_ite (kwd_some (rfl)) (kwd_bind (kW_X6_row N σ ((σ.i 53) - 1)) (fun p4 => (kwd_oc (kwd_some (rfl)) (fun a9 => (kwd_ite (kwd_bind (kW_X5_hasOneBody N p4.2 a9) (fun p12 => (kwd_ite (kwd_ite (kwd_ite (kwd_bind (kW_X1_found N p12.2 215) (fun p47 => (kwd_ite (kwd_ite (kwd_ite (kwd_bind (kW_X7_beginFinally N p47.2 a9) (fun p82 => (hMK p82.2 x1 (x2 + 1)))) (kwd_bind (kW_X1_found N p47.2 125) (fun p54 => (kwd_ite (kwd_bind (kW_X1_found N p54.2 0) (fun p63 => (kwd_ite (kwd_ite (kwd_ite (kwd_bind (kW_X7_groupTurn N E1 E2 hm1 hm2 p63.2 a9) (fun p74 => (hMK p74.2 x1 (x2 + 1)))) (kwd_bind (kW_X7_statement N E1 E2 hm1 hm2 p63.2 0) (fun p70 => (hMK p70.2 x1 (x2 + 1))))) kwd_none) (kwd_bind (kW_X7_endList N p63.2 a9) (fun p78 => (hMK p78.2 x1 (x2 + 1))))))) (kwd_bind (kW_X7_endList N p54.2 a9) (fun p59 => (hMK p59.2 x1 (x2 + 1)))))))) kwd_none) (kwd_bind (kW_X7_beginCatch N p47.2 a9) (fun p86 => (hMK p86.2 x1 (x2 + 1))))))) (kwd_bind (kW_X1_found N p12.2 125) (fun p19 => (kwd_ite (kwd_bind (kW_X1_found N p19.2 0) (fun p28 => (kwd_ite (kwd_ite (kwd_ite (kwd_bind (kW_X7_groupTurn N E1 E2 hm1 hm2 p28.2 a9) (fun p39 => (hMK p39.2 x1 (x2 + 1)))) (kwd_bind (kW_X7_statement N E1 E2 hm1 hm2 p28.2 0) (fun p35 => (hMK p35.2 x1 (x2 + 1))))) kwd_none) (kwd_bind (kW_X7_endList N p28.2 a9) (fun p43 => (hMK p43.2 x1 (x2 + 1))))))) (kwd_bind (kW_X7_endList N p19.2 a9) (fun p24 => (hMK p24.2 x1 (x2 + 1)))))))) kwd_none) (kwd_bind (kW_X7_bodyTurn N E1 E2 hm1 hm2 p12.2 a9) (fun p90 => (hMK p90.2 x1 (x2 + 1))))))) kwd_none)))))) (kwd_some (rfl))))
theorem kW_X7_turns_2 (N : Nat) (E1 : CS → Option (Unit × CS)) (E2 : CS → Option (Int32 × CS)) (hm1 : ∀ σ, Kwd (pWd σ) (E1 σ)) (hm2 : ∀ σ, Kwd (pWd σ) (E2 σ)) : ∀ (n : Nat) (σ : CS) (x1 : Int32) (x2 : Int32), Kwd (pWd σ) (f_X7_turns_2 N E1 E2 n σ x1 x2)
  | 0, _, _, _ => kwd_none
  | n+1, σ, x1, x2 => kWb_X7_turns_2 N E1 E2 hm1 hm2 (f_X7_turns_2 N E1 E2 n) (fun σ x1 x2 => kW_X7_turns_2 N E1 E2 hm1 hm2 n σ x1 x2) σ x1 x2
theorem kW_X7_turns (N : Nat) (E1 : CS → Option (Unit × CS)) (E2 : CS → Option (Int32 × CS)) (hm1 : ∀ σ, Kwd (pWd σ) (E1 σ)) (hm2 : ∀ σ, Kwd (pWd σ) (E2 σ)) (σ : CS) (x1 : Int32) : Kwd (pWd σ) (f_X7_turns N E1 E2 σ x1) := by
  unfold f_X7_turns
  exact (kW_X7_turns_2 N E1 E2 hm1 hm2 N σ x1 0)
theorem kW_X7_armBlock (N : Nat) (E1 : CS → Option (Unit × CS)) (E2 : CS → Option (Int32 × CS)) (hm1 : ∀ σ, Kwd (pWd σ) (E1 σ)) (hm2 : ∀ σ, Kwd (pWd σ) (E2 σ)) (σ : CS) (x1 : Int32) : Kwd (pWd σ) (f_X7_armBlock N E1 E2 σ x1) := by
  unfold f_X7_armBlock
  exact (kwd_bind (kW_X1_open N σ 123) (fun p1 => (kwd_bind (kW_X6_push N p1.2 302 (p1.2.i 38) (p1.2.i 50)) (fun p5 => (kwd_oc kwd_none (fun a10 => (kwd_ite (kwd_bind (kW_X7_turns N E1 E2 hm1 hm2 (CS.setI (CS.setI (CS.setO (CS.setO p5.2 a10 9 x1) a10 16 (p5.2.i 56)) 56 (σ.i 53)) 36 1) (σ.i 53)) (fun p12 => (kwd_ite (kwd_ite (kwd_some (rfl)) kwd_none) kwd_none))) kwd_none)))))))
theorem kW_X1_arm_153 (N : Nat) (E1 : CS → Option (Unit × CS)) (E2 : CS → Option (Int32 × CS)) (hm1 : ∀ σ, Kwd (pWd σ) (E1 σ)) (hm2 : ∀ σ, Kwd (pWd σ) (E2 σ)) (σ : CS) (x5 : Int32) : Kwd (pWd σ) (f_X1_arm_153 N E1 E2 σ x5) := by
  unfold f_X1_arm_153
  exact (kwd_some (rfl))
theorem kW_X1_arm_100 (N : Nat) (E1 : CS → Option (Unit × CS)) (E2 : CS → Option (Int32 × CS)) (hm1 : ∀ σ, Kwd (pWd σ) (E1 σ)) (hm2 : ∀ σ, Kwd (pWd σ) (E2 σ)) (σ : CS) (x3 : Int32) (x4 : Int32) (x5 : Int32) : Kwd (pWd σ) (f_X1_arm_100 N E1 E2 σ x3 x4 x5) := by
  unfold f_X1_arm_100
  exact (kwd_bind (kW_X1_expect N σ 134) (fun p19 => (kwd_bind (kW_X0_aim N p19.2 x4) (fun p23 => (kwd_bind (kW_X1_found N p23.2 123) (fun p27 => (kwd_ite (kwd_bind (kW_X1_expression N E1 E2 hm1 hm2 p27.2) (fun p32 => (kwd_bind (kW_X1_expect N p32.2 59) (fun p36 => (kwd_bind (kW_X0_add N p36.2 30 x3) (fun p40 => (kW_X1_arm_153 N E1 E2 hm1 hm2 p40.2 x5))))))) (kwd_bind (kW_X7_armBlock N E1 E2 hm1 hm2 p27.2 x3) (fun p44 => (kW_X1_arm_153 N E1 E2 hm1 hm2 p44.2 x5))))))))))
theorem kWb_X1_arm_70 (N : Nat) (E1 : CS → Option (Unit × CS)) (E2 : CS → Option (Int32 × CS)) (hm1 : ∀ σ, Kwd (pWd σ) (E1 σ)) (hm2 : ∀ σ, Kwd (pWd σ) (E2 σ)) (K : CS → Int32 → Int32 → Int32 → Int32 → Int32 → Option (Int32 × CS)) (hMK : ∀ (σ : CS) (x1 : Int32) (x3 : Int32) (x4 : Int32) (x5 : Int32) (x6 : Int32), Kwd (pWd σ) (K σ x1 x3 x4 x5 x6)) (σ : CS) (x1 : Int32) (x3 : Int32) (x4 : Int32) (x5 : Int32) (x6 : Int32) : Kwd (pWd σ) (b_X1_arm_70 N E1 E2 K σ x1 x3 x4 x5 x6) := by
  unfold b_X1_arm_70
  exact (kwd_ite (kW_X1_arm_100 N E1 E2 hm1 hm2 σ x3 x4 x5) (kwd_bind (kW_X1_skip N σ 44) (fun p48 => (kwd_ite (kW_X1_arm_100 N E1 E2 hm1 hm2 p48.2 x3 x4 x5) (kwd_bind (kW_X1_caseNumber N p48.2 x1 x4) (fun p53 => (hMK p53.2 x1 x3 x4 x5 (x6 + 1))))))))
theorem kW_X1_arm_70 (N : Nat) (E1 : CS → Option (Unit × CS)) (E2 : CS → Option (Int32 × CS)) (hm1 : ∀ σ, Kwd (pWd σ) (E1 σ)) (hm2 : ∀ σ, Kwd (pWd σ) (E2 σ)) : ∀ (n : Nat) (σ : CS) (x1 : Int32) (x3 : Int32) (x4 : Int32) (x5 : Int32) (x6 : Int32), Kwd (pWd σ) (f_X1_arm_70 N E1 E2 n σ x1 x3 x4 x5 x6)
  | 0, _, _, _, _, _, _ => kwd_none
  | n+1, σ, x1, x3, x4, x5, x6 => kWb_X1_arm_70 N E1 E2 hm1 hm2 (f_X1_arm_70 N E1 E2 n) (fun σ x1 x3 x4 x5 x6 => kW_X1_arm_70 N E1 E2 hm1 hm2 n σ x1 x3 x4 x5 x6) σ x1 x3 x4 x5 x6
theorem kW_X1_arm_39 (N : Nat) (E1 : CS → Option (Unit × CS)) (E2 : CS → Option (Int32 × CS)) (hm1 : ∀ σ, Kwd (pWd σ) (E1 σ)) (hm2 : ∀ σ, Kwd (pWd σ) (E2 σ)) (σ : CS) (x3 : Int32) (x4 : Int32) : Kwd (pWd σ) (f_X1_arm_39 N E1 E2 σ x3 x4) := by
  unfold f_X1_arm_39
  exact (kwd_bind (kW_X9_advance N σ) (fun p58 => (kW_X1_arm_100 N E1 E2 hm1 hm2 p58.2 x3 x4 x4)))
theorem kW_X1_arm (N : Nat) (E1 : CS → Option (Unit × CS)) (E2 : CS → Option (Int32 × CS)) (hm1 : ∀ σ, Kwd (pWd σ) (E1 σ)) (hm2 : ∀ σ, Kwd (pWd σ) (E2 σ)) (σ : CS) (x1 : Int32) (x2 : Int32) (x3 : Int32) : Kwd (pWd σ) (f_X1_arm N E1 E2 σ x1 x2 x3) := by
  unfold f_X1_arm
  exact (kwd_bind (kW_X0_newTarget N σ) (fun p1 => (kwd_bind (kW_X1_found N p1.2 220) (fun p5 => (kwd_ite (kwd_bind (kW_X9_advance N p5.2) (fun p10 => (kwd_bind (kW_X1_caseNumber N p10.2 x1 p1.1) (fun p14 => (kW_X1_arm_70 N E1 E2 hm1 hm2 N p14.2 x1 x3 p1.1 x2 0))))) (kwd_ite (kW_X1_arm_39 N E1 E2 hm1 hm2 p5.2 x3 p1.1) (kwd_bind (kW_X1_fail N p5.2 4 (p5.2.i 44)) (fun p62 => (kW_X1_arm_39 N E1 E2 hm1 hm2 p62.2 x3 p1.1)))))))))
theorem kW_X1_choice_122 (N : Nat) (E1 : CS → Option (Unit × CS)) (E2 : CS → Option (Int32 × CS)) (hm1 : ∀ σ, Kwd (pWd σ) (E1 σ)) (hm2 : ∀ σ, Kwd (pWd σ) (E2 σ)) (σ : CS) (x1 : Int32) (x2 : Int32) (x3 : Int32) (x4 : Int32) : Kwd (pWd σ) (f_X1_choice_122 N E1 E2 σ x1 x2 x3 x4) := by
  unfold f_X1_choice_122
  exact (kwd_bind (kW_X1_close N σ 125) (fun p35 => (kwd_bind (kW_X0_aim N p35.2 x1) (fun p39 => (kwd_bind (kW_X0_addCases N p39.2 x3 x4) (fun p43 => (kwd_bind (kW_X0_aim N p43.2 x2) (fun p47 => (kwd_some (rfl))))))))))
theorem kW_X1_choice_113 (N : Nat) (E1 : CS → Option (Unit × CS)) (E2 : CS → Option (Int32 × CS)) (hm1 : ∀ σ, Kwd (pWd σ) (E1 σ)) (hm2 : ∀ σ, Kwd (pWd σ) (E2 σ)) (σ : CS) (x1 : Int32) (x2 : Int32) (x3 : Int32) (x4 : Int32) : Kwd (pWd σ) (f_X1_choice_113 N E1 E2 σ x1 x2 x3 x4) := by
  unfold f_X1_choice_113
  exact (kwd_ite (kW_X1_choice_122 N E1 E2 hm1 hm2 σ x1 x2 x3 x4) (kwd_bind (kW_X1_misplaced N σ) (fun p51 => (kW_X1_choice_122 N E1 E2 hm1 hm2 p51.2 x1 x2 x3 x4))))
theorem kWb_X1_choice_69 (N : Nat) (E1 : CS → Option (Unit × CS)) (E2 : CS → Option (Int32 × CS)) (hm1 : ∀ σ, Kwd (pWd σ) (E1 σ)) (hm2 : ∀ σ, Kwd (pWd σ) (E2 σ)) (K : CS → Int32 → Int32 → Int32 → Int32 → Int32 → Option (Unit × CS)) (hMK : ∀ (σ : CS) (x1 : Int32) (x2 : Int32) (x3 : Int32) (x4 : Int32) (x5 : Int32), Kwd (pWd σ) (K σ x1 x2 x3 x4 x5)) (σ : CS) (x1 : Int32) (x2 : Int32) (x3 : Int32) (x4 : Int32) (x5 : Int32) : Kwd (pWd σ) (b_X1_choice_69 N E1 E2 K σ x1 x2 x3 x4 x5) := by
  unfold b_X1_choice_69
  exact (kwd_ite (kW_X1_choice_113 N E1 E2 hm1 hm2 σ x1 x2 x3 x4) (kwd_bind (kW_X1_found N σ 219) (fun p55 => (kwd_ite (kwd_bind (kW_X1_found N p55.2 220) (fun p64 => (kwd_ite (kW_X1_choice_113 N E1 E2 hm1 hm2 p64.2 x1 x2 x3 x4) (kwd_bind (kW_X1_arm N E1 E2 hm1 hm2 p64.2 x3 x4 x2) (fun p69 => (hMK p69.2 x1 x2 x3 p69.1 (x5 + 1))))))) (kwd_bind (kW_X1_arm N E1 E2 hm1 hm2 p55.2 x3 x4 x2) (fun p60 => (hMK p60.2 x1 x2 x3 p60.1 (x5 + 1))))))))
theorem kW_X1_choice_69 (N : Nat) (E1 : CS → Option (Unit × CS)) (E2 : CS → Option (Int32 × CS)) (hm1 : ∀ σ, Kwd (pWd σ) (E1 σ)) (hm2 : ∀ σ, Kwd (pWd σ) (E2 σ)) : ∀ (n : Nat) (σ : CS) (x1 : Int32) (x2 : Int32) (x3 : Int32) (x4 : Int32) (x5 : Int32), Kwd (pWd σ) (f_X1_choice_69 N E1 E2 n σ x1 x2 x3 x4 x5)
  | 0, _, _, _, _, _, _ => kwd_none
  | n+1, σ, x1, x2, x3, x4, x5 => kWb_X1_choice_69 N E1 E2 hm1 hm2 (f_X1_choice_69 N E1 E2 n) (fun σ x1 x2 x3 x4 x5 => kW_X1_choice_69 N E1 E2 hm1 hm2 n σ x1 x2 x3 x4 x5) σ x1 x2 x3 x4 x5
theorem kW_X1_choice (N : Nat) (E1 : CS → Option (Unit × CS)) (E2 : CS → Option (Int32 × CS)) (hm1 : ∀ σ, Kwd (pWd σ) (E1 σ)) (hm2 : ∀ σ, Kwd (pWd σ) (E2 σ)) (σ : CS) : Kwd (pWd σ) (f_X1_choice N E1 E2 σ) := by
  unfold f_X1_choice
  exact (kwd_bind (kW_X9_advance N σ) (fun p1 => (kwd_bind (kW_X1_open N p1.2 40) (fun p5 => (kwd_bind (kW_X1_expression N E1 E2 hm1 hm2 p5.2) (fun p9 => (kwd_bind (kW_X1_close N p9.2 41) (fun p13 => (kwd_bind (kW_X1_open N p13.2 123) (fun p17 => (kwd_bind (kW_X0_newTarget N p17.2) (fun p21 => (kwd_bind (kW_X0_newTarget N p21.2) (fun p25 => (kwd_bind (kW_X0_add N p25.2 30 p21.1) (fun p29 => (kW_X1_choice_69 N E1 E2 hm1 hm2 N p29.2 p21.1 p25.1 (p25.2.i 22) (-1) 0)))))))))))))))))
theorem kW_X1_factor (N : Nat) (E1 : CS → Option (Unit × CS)) (E2 : CS → Option (Int32 × CS)) (hm1 : ∀ σ, Kwd (pWd σ) (E1 σ)) (hm2 : ∀ σ, Kwd (pWd σ) (E2 σ)) (σ : CS) : Kwd (pWd σ) (f_X1_factor N E1 E2 σ) := by
  unfold f_X1_factor
  exact (kwd_ite (kwd_bind (kW_X0_add N σ 0 (σ.i 45)) (fun p2 => (kwd_bind (kW_X9_advance N p2.2) (fun p6 => (kwd_some (rfl)))))) (kwd_ite (kwd_bind (kW_X1_loadName N σ) (fun p11 => (kwd_some (rfl)))) (kwd_ite (kwd_bind (kW_X1_open N σ 40) (fun p16 => (kwd_bind (kW_X1_expression N E1 E2 hm1 hm2 p16.2) (fun p20 => (kwd_bind (kW_X1_close N p20.2 41) (fun p24 => (kwd_some (rfl)))))))) (kwd_ite (kwd_bind (kW_X1_negated N E1 E2 hm1 hm2 σ) (fun p29 => (kwd_some (rfl)))) (kwd_ite (kwd_bind (kW_X1_choice N E1 E2 hm1 hm2 σ) (fun p34 => (kwd_some (rfl)))) (kwd_bind (kW_X1_misplaced N σ) (fun p38 => (kwd_some (rfl)))))))))
theorem kW_X1_comparing (N : Nat) (σ : CS) (x0 : Int32) : Kwd (pWd σ) (f_X1_comparing N σ x0) := by
  unfold f_X1_comparing
  exact (kwd_ite (kwd_some (rfl)) (kwd_ite (kwd_some (rfl)) (kwd_ite (kwd_some (rfl)) (kwd_ite (kwd_some (rfl)) (kwd_ite (kwd_some (rfl)) (kwd_ite (kwd_some (rfl)) (kwd_some (rfl))))))))
theorem kW_X1_comparison (N : Nat) (E1 : CS → Option (Unit × CS)) (E2 : CS → Option (Int32 × CS)) (hm1 : ∀ σ, Kwd (pWd σ) (E1 σ)) (hm2 : ∀ σ, Kwd (pWd σ) (E2 σ)) (σ : CS) : Kwd (pWd σ) (f_X1_comparison N E1 E2 σ) := by
  unfold f_X1_comparison
  exact (kwd_bind (kW_X1_expression N E1 E2 hm1 hm2 σ) (fun p1 => (kwd_bind (kW_X1_comparing N p1.2 (p1.2.i 43)) (fun p5 => (kwd_ite (kwd_bind (kW_X9_advance N p5.2) (fun p10 => (kwd_bind (kW_X1_expression N E1 E2 hm1 hm2 p10.2) (fun p14 => (kwd_bind (kW_X0_add N p14.2 p5.1 0) (fun p18 => (kwd_some (rfl)))))))) (kwd_bind (kW_X1_misplaced N p5.2) (fun p22 => (kwd_some (rfl)))))))))
theorem kW_X1_one_66 (N : Nat) (E1 : CS → Option (Unit × CS)) (E2 : CS → Option (Int32 × CS)) (hm1 : ∀ σ, Kwd (pWd σ) (E1 σ)) (hm2 : ∀ σ, Kwd (pWd σ) (E2 σ)) (σ : CS) : Kwd (pWd σ) (f_X1_one_66 N E1 E2 σ ) := by
  unfold f_X1_one_66
  exact (kwd_bind (kW_X0_add N (CS.setI σ 34 ((σ.i 34) - 1)) 5 0) (fun p7 => (kwd_some (rfl))))
theorem kW_X1_one (N : Nat) (E1 : CS → Option (Unit × CS)) (E2 : CS → Option (Int32 × CS)) (hm1 : ∀ σ, Kwd (pWd σ) (E1 σ)) (hm2 : ∀ σ, Kwd (pWd σ) (E2 σ)) (σ : CS) : Kwd (pWd σ) (f_X1_one N E1 E2 σ) := by
  unfold f_X1_one
  exact (kwd_ite (kwd_bind (kW_X1_open N σ 33) (fun p2 => (kwd_ite (kwd_bind (hm2 p2.2) (fun p11 => (kW_X1_one_66 N E1 E2 hm1 hm2 p11.2))) (kW_X1_one_66 N E1 E2 hm1 hm2 p2.2)))) (kwd_ite (kwd_bind (kW_X1_open N σ 91) (fun p16 => (kwd_bind (kW_X1_condition N E1 E2 hm1 hm2 p16.2) (fun p20 => (kwd_bind (kW_X1_close N p20.2 93) (fun p24 => (kwd_some (rfl)))))))) (kwd_ite (kwd_bind (kW_X0_add N σ 0 1) (fun p29 => (kwd_bind (kW_X9_advance N p29.2) (fun p33 => (kwd_some (rfl)))))) (kwd_ite (kwd_bind (kW_X0_add N σ 0 0) (fun p38 => (kwd_bind (kW_X9_advance N p38.2) (fun p42 => (kwd_some (rfl)))))) (kwd_bind (kW_X1_comparison N E1 E2 hm1 hm2 σ) (fun p46 => (kwd_some (rfl))))))))
theorem kW_X3_lastThrown (N : Nat) (σ : CS) : Kwd (pWd σ) (f_X3_lastThrown N σ) := by
  unfold f_X3_lastThrown
  exact (kwd_ite (kwd_oc (kwd_some (rfl)) (fun a3 => (kwd_some (rfl)))) (kwd_some (rfl)))
theorem kW_X3_answer (N : Nat) (σ : CS) (x1 : Int32) : Kwd (pWd σ) (f_X3_answer N σ x1) := by
  unfold f_X3_answer
  exact (kwd_bind (kW_X3_lastThrown N σ) (fun p1 => (kwd_oc (kwd_ite (kwd_some (rfl)) (kwd_ite (kwd_some (rfl)) (kwd_ite (kwd_ite (kwd_some (rfl)) (kwd_some (rfl))) (kwd_ite (kwd_some (rfl)) (kwd_ite (kwd_some (rfl)) (kwd_ite (kwd_some (rfl)) (kwd_some (rfl)))))))) (fun a6 => (kwd_ite (kwd_some (rfl)) (kwd_ite (kwd_some (rfl)) (kwd_ite (kwd_ite (kwd_some (rfl)) (kwd_some (rfl))) (kwd_ite (kwd_ite (kwd_some (rfl)) kwd_none) (kwd_ite (kwd_ite (kwd_some (rfl)) kwd_none) (kwd_ite (kwd_ite (kwd_some (rfl)) kwd_none) (kwd_some (rfl))))))))))))
theorem kW_X6_clear (N : Nat) (σ : CS) : Kwd (pWd σ) (f_X6_clear N σ) := by
  unfold f_X6_clear
  exact (kwd_some (rfl))
theorem kW_X9_start (N : Nat) (σ : CS) (x1 : Int32) : Kwd (pWd σ) (f_X9_start N σ x1) := by
  unfold f_X9_start
  exact (kwd_bind (kW_X9_advance N (CS.setI (CS.setI σ 41 x1) 42 0)) (fun p1 => (kwd_some (rfl))))
theorem kW_X7_translate_139 (N : Nat) (E1 : CS → Option (Unit × CS)) (E2 : CS → Option (Int32 × CS)) (hm1 : ∀ σ, Kwd (pWd σ) (E1 σ)) (hm2 : ∀ σ, Kwd (pWd σ) (E2 σ)) (σ : CS) : Kwd (pWd σ) (f_X7_translate_139 N E1 E2 σ ) := by
  unfold f_X7_translate_139
  exact (kwd_some (rfl))
theorem kW_X7_translate (N : Nat) (E1 : CS → Option (Unit × CS)) (E2 : CS → Option (Int32 × CS)) (hm1 : ∀ σ, Kwd (pWd σ) (E1 σ)) (hm2 : ∀ σ, Kwd (pWd σ) (E2 σ)) (σ : CS) (x1 : Int32) : Kwd (pWd σ) (f_X7_translate N E1 E2 σ x1) := by
  unfold f_X7_translate
  exact (kwd_bind (kW_X0_clear N σ) (fun p1 => (kwd_bind (kW_X0_newCells N (CS.setI p1.2 50 0) 1) (fun p5 => (kwd_bind (kW_X4_add N p5.2 97 p5.1 (-1)) (fun p9 => (kwd_bind (kW_X0_newCells N p9.2 1) (fun p13 => (kwd_bind (kW_X4_add N p13.2 98 p13.1 (-1)) (fun p17 => (kwd_bind (kW_X6_clear N p17.2) (fun p21 => (kwd_bind (kW_X9_start N (CS.setI (CS.setI (CS.setI (CS.setI (CS.setI (CS.setI p21.2 32 0) 33 0) 34 0) 36 1) 37 (-1)) 38 0) x1) (fun p25 => (kwd_bind (kW_X6_push N p25.2 300 0 (p25.2.i 50)) (fun p29 => (kwd_oc (kwd_bind (kW_X7_turns N E1 E2 hm1 hm2 p29.2 0) (fun p35 => (kwd_ite (kW_X7_translate_139 N E1 E2 hm1 hm2 p35.2) (kwd_bind (kW_X1_fail N p35.2 7 (p35.2.i 37)) (fun p40 => (kW_X7_translate_139 N E1 E2 hm1 hm2 p40.2)))))) (fun a34 => (kwd_bind (kW_X7_turns N E1 E2 hm1 hm2 p29.2 0) (fun p44 => (kwd_ite (kW_X7_translate_139 N E1 E2 hm1 hm2 p44.2) (kwd_bind (kW_X1_fail N p44.2 7 (p44.2.i 37)) (fun p49 => (kW_X7_translate_139 N E1 E2 hm1 hm2 p49.2))))))))))))))))))))))))
theorem kW_X10_isFull (N : Nat) (σ : CS) : Kwd (pWd σ) (f_X10_isFull N σ) := by
  unfold f_X10_isFull
  exact (kwd_ite (kwd_some (rfl)) (kwd_some (rfl)))
theorem kW_X10_addKind (N : Nat) (σ : CS) (x1 : Int32) : Kwd (pWd σ) (f_X10_addKind N σ x1) := by
  unfold f_X10_addKind
  exact (kwd_some (rfl))
theorem kW_X10_tellResource (N : Nat) (σ : CS) (x1 : Int32) (x2 : Int32) (x3 : Int32) (x4 : Int32) : Kwd (pWd σ) (f_X10_tellResource N σ x1 x2 x3 x4) := by
  unfold f_X10_tellResource
  exact (kwd_some (rfl))
theorem kWb_X11_addBytes_3 (N : Nat) (K : CS → Int32 → Int32 → Option (Unit × CS)) (hMK : ∀ (σ : CS) (x1 : Int32) (x2 : Int32), Kwd (pWd σ) (K σ x1 x2)) (σ : CS) (x1 : Int32) (x2 : Int32) : Kwd (pWd σ) (b_X11_addBytes_3 N K σ x1 x2) := by
  unfold b_X11_addBytes_3
  exact (kwd_ite (kwd_some (rfl)) (hMK (CS.setI (CS.putA σ 0 (gPut (σ.a 0) 900 (σ.i 5) (((x1 : Int32).toUInt32 >>> ((x2 : Int32).toUInt32 &&& Int32.toUInt32 31)).toInt32 &&& 255))) 5 ((σ.i 5) + 1)) x1 (x2 + (-8))))
theorem kW_X11_addBytes_3 (N : Nat) : ∀ (n : Nat) (σ : CS) (x1 : Int32) (x2 : Int32), Kwd (pWd σ) (f_X11_addBytes_3 N n σ x1 x2)
  | 0, _, _, _ => kwd_none
  | n+1, σ, x1, x2 => kWb_X11_addBytes_3 N (f_X11_addBytes_3 N n) (fun σ x1 x2 => kW_X11_addBytes_3 N n σ x1 x2) σ x1 x2
theorem kW_X11_addBytes (N : Nat) (σ : CS) (x1 : Int32) : Kwd (pWd σ) (f_X11_addBytes N σ x1) := by
  unfold f_X11_addBytes
  exact (kW_X11_addBytes_3 N N σ x1 24)
theorem kW_X11_feed (N : Nat) (σ : CS) (x1 : Int32) (x2 : Int32) (x3 : Int32) (x4 : Int32) (x5 : Int32) : Kwd (pWd σ) (f_X11_feed N σ x1 x2 x3 x4 x5) := by
  unfold f_X11_feed
  exact (kwd_ite (kwd_bind (kW_X11_addBytes N σ x1) (fun p2 => (kwd_bind (kW_X11_addBytes N p2.2 x2) (fun p6 => (kwd_bind (kW_X11_addBytes N p6.2 x3) (fun p10 => (kwd_bind (kW_X11_addBytes N p10.2 x4) (fun p14 => (kwd_bind (kW_X11_addBytes N p14.2 x5) (fun p18 => (kwd_some (rfl)))))))))))) (kwd_some (rfl)))
theorem kW_X11_cut_12 (N : Nat) (σ : CS) : Kwd (pWd σ) (f_X11_cut_12 N σ ) := by
  unfold f_X11_cut_12
  exact (kwd_some (rfl))
theorem kW_X11_cut (N : Nat) (σ : CS) (x1 : Int32) : Kwd (pWd σ) (f_X11_cut N σ x1) := by
  unfold f_X11_cut
  exact (kwd_ite (kW_X11_cut_12 N σ) (kwd_ite (kwd_some (rfl)) (kW_X11_cut_12 N σ)))
theorem kW_X11_kind (N : Nat) (σ : CS) (x1 : Int32) : Kwd (pWd σ) (f_X11_kind N σ x1) := by
  unfold f_X11_kind
  exact (kwd_bind (kW_X10_isKind N σ x1) (fun p1 => (kwd_ite (kwd_some (rfl)) (kwd_bind (kW_X10_isFull N p1.2) (fun p6 => (kwd_ite (kwd_bind (kW_X10_addKind N p6.2 x1) (fun p11 => (kwd_some (rfl)))) (kwd_some (rfl))))))))
theorem kW_X11_isKindOrNothing_16 (N : Nat) (σ : CS) : Kwd (pWd σ) (f_X11_isKindOrNothing_16 N σ ) := by
  unfold f_X11_isKindOrNothing_16
  exact (kwd_some (rfl))
theorem kW_X11_isKindOrNothing (N : Nat) (σ : CS) (x1 : Int32) : Kwd (pWd σ) (f_X11_isKindOrNothing N σ x1) := by
  unfold f_X11_isKindOrNothing
  exact (kwd_ite (kW_X11_isKindOrNothing_16 N σ) (kwd_bind (kW_X10_isKind N σ x1) (fun p2 => (kwd_ite (kwd_some (rfl)) (kW_X11_isKindOrNothing_16 N p2.2)))))
theorem kW_X11_resource_19 (N : Nat) (σ : CS) : Kwd (pWd σ) (f_X11_resource_19 N σ ) := by
  unfold f_X11_resource_19
  exact (kwd_some (rfl))
theorem kW_X11_resource_38 (N : Nat) (σ : CS) : Kwd (pWd σ) (f_X11_resource_38 N σ ) := by
  unfold f_X11_resource_38
  exact (kwd_some (rfl))
theorem kW_X11_resource (N : Nat) (σ : CS) (x1 : Int32) (x2 : Int32) (x3 : Int32) (x4 : Int32) : Kwd (pWd σ) (f_X11_resource N σ x1 x2 x3 x4) := by
  unfold f_X11_resource
  exact (kwd_ite (kW_X11_resource_19 N σ) (kwd_ite (kW_X11_resource_19 N σ) (kwd_ite (kW_X11_resource_19 N σ) (kwd_ite (kwd_bind (kW_X11_isKindOrNothing N σ x3) (fun p5 => (kwd_ite (kW_X11_resource_38 N p5.2) (kwd_bind (kW_X11_isKindOrNothing N p5.2 x4) (fun p10 => (kwd_ite (kW_X11_resource_38 N p10.2) (kwd_bind (kW_X10_tellResource N p10.2 x1 x2 x3 x4) (fun p15 => (kwd_some (rfl)))))))))) (kW_X11_resource_19 N σ)))))
theorem kW_X11_asserts_16 (N : Nat) (σ : CS) (x1 : Int32) (x2 : Int32) : Kwd (pWd σ) (f_X11_asserts_16 N σ x1 x2) := by
  unfold f_X11_asserts_16
  exact (kwd_ite (kwd_some (rfl)) kwd_none)
theorem kW_X11_asserts (N : Nat) (σ : CS) (x1 : Int32) : Kwd (pWd σ) (f_X11_asserts N σ x1) := by
  unfold f_X11_asserts
  exact (kwd_ite (kW_X11_asserts_16 N σ x1 0) (kW_X11_asserts_16 N σ x1 1))
theorem kW_X11_read_43 (N : Nat) (E1 : CS → Option (Unit × CS)) (E2 : CS → Option (Int32 × CS)) (hm1 : ∀ σ, Kwd (pWd σ) (E1 σ)) (hm2 : ∀ σ, Kwd (pWd σ) (E2 σ)) (σ : CS) : Kwd (pWd σ) (f_X11_read_43 N E1 E2 σ ) := by
  unfold f_X11_read_43
  exact (kwd_ite (kwd_some (rfl)) (kwd_some (rfl)))
theorem kW_X11_read (N : Nat) (E1 : CS → Option (Unit × CS)) (E2 : CS → Option (Int32 × CS)) (hm1 : ∀ σ, Kwd (pWd σ) (E1 σ)) (hm2 : ∀ σ, Kwd (pWd σ) (E2 σ)) (σ : CS) : Kwd (pWd σ) (f_X11_read N E1 E2 σ) := by
  unfold f_X11_read
  exact (kwd_bind (kW_X7_translate N E1 E2 hm1 hm2 (CS.setI (CS.setI σ 5 0) 8 0) (σ.i 5)) (fun p1 => (kwd_ite (kW_X11_read_43 N E1 E2 hm1 hm2 (CS.setI (CS.setI p1.2 6 p1.1) 7 1)) (kW_X11_read_43 N E1 E2 hm1 hm2 (CS.setI (CS.setI p1.2 6 p1.1) 7 0)))))
theorem kW_X11_fault (N : Nat) (σ : CS) : Kwd (pWd σ) (f_X11_fault N σ) := by
  unfold f_X11_fault
  exact (kwd_some (rfl))
theorem kW_X11_program_9 (N : Nat) (σ : CS) : Kwd (pWd σ) (f_X11_program_9 N σ ) := by
  unfold f_X11_program_9
  exact (kwd_some (rfl))
theorem kW_X11_program (N : Nat) (σ : CS) (x1 : Int32) : Kwd (pWd σ) (f_X11_program N σ x1) := by
  unfold f_X11_program
  exact (kwd_ite (kW_X11_program_9 N σ) (kwd_ite (kwd_ite (kwd_some (rfl)) (kwd_ite (kwd_some (rfl)) (kwd_ite (kwd_ite (kwd_some (rfl)) (kwd_some (rfl))) (kwd_ite (kwd_some (rfl)) (kwd_some (rfl)))))) (kW_X11_program_9 N σ)))
theorem kW_X11_ran_10 (N : Nat) (σ : CS) : Kwd (pWd σ) (f_X11_ran_10 N σ ) := by
  unfold f_X11_ran_10
  exact (kwd_some (rfl))
theorem kW_X11_ran (N : Nat) (σ : CS) (x1 : Int32) : Kwd (pWd σ) (f_X11_ran N σ x1) := by
  unfold f_X11_ran
  exact (kwd_ite (kW_X11_ran_10 N σ) (kwd_ite (kwd_ite (kwd_some (rfl)) (kwd_bind (kW_X3_answer N σ x1) (fun p4 => (kwd_some (rfl))))) (kW_X11_ran_10 N σ)))
theorem kW_X11_trace_31 (N : Nat) (σ : CS) : Kwd (pWd σ) (f_X11_trace_31 N σ ) := by
  unfold f_X11_trace_31
  exact (kwd_some (rfl))
theorem kW_X11_trace (N : Nat) (σ : CS) (x1 : Int32) (x2 : Int32) : Kwd (pWd σ) (f_X11_trace N σ x1 x2) := by
  unfold f_X11_trace
  exact (kwd_ite (kW_X11_trace_31 N σ) (kwd_ite (kW_X11_trace_31 N σ) (kwd_ite (kW_X11_trace_31 N σ) (kwd_ite (kW_X11_trace_31 N σ) (kwd_ite (kwd_some (rfl)) (kW_X11_trace_31 N σ))))))
theorem kW_X11_suppressed_44 (N : Nat) (σ : CS) : Kwd (pWd σ) (f_X11_suppressed_44 N σ ) := by
  unfold f_X11_suppressed_44
  exact (kwd_some (rfl))
theorem kW_X11_suppressed_19 (N : Nat) (σ : CS) (x1 : Int32) (x2 : Int32) (x3 : Option Nat) : Kwd (pWd σ) (f_X11_suppressed_19 N σ x1 x2 x3) := by
  unfold f_X11_suppressed_19
  exact (kwd_oc (kW_X11_suppressed_44 N σ) (fun a3 => (kwd_ite (kW_X11_suppressed_44 N σ) (kwd_ite (kwd_ite (kW_X11_suppressed_44 N σ) (kwd_ite (kW_X11_suppressed_44 N σ) (kwd_ite (kwd_ite (kwd_ite (kwd_some (rfl)) kwd_none) (kwd_ite (kwd_some (rfl)) kwd_none)) (kW_X11_suppressed_44 N σ)))) kwd_none))))
theorem kW_X11_suppressed (N : Nat) (σ : CS) (x1 : Int32) (x2 : Int32) : Kwd (pWd σ) (f_X11_suppressed N σ x1 x2) := by
  unfold f_X11_suppressed
  exact (kwd_ite (kW_X11_suppressed_19 N σ x1 x2 none) (kwd_bind (kW_X3_lastThrown N σ) (fun p16 => (kwd_oc (kW_X11_suppressed_19 N p16.2 x1 x2 none) (fun a21 => (kW_X11_suppressed_19 N p16.2 x1 x2 (some a21)))))))
theorem kW_X11_under_22 (N : Nat) (σ : CS) : Kwd (pWd σ) (f_X11_under_22 N σ ) := by
  unfold f_X11_under_22
  exact (kwd_some (rfl))
theorem kW_X11_under (N : Nat) (σ : CS) (x1 : Int32) (x2 : Int32) : Kwd (pWd σ) (f_X11_under N σ x1 x2) := by
  unfold f_X11_under
  exact (kwd_bind (kW_X10_isKind N σ x1) (fun p1 => (kwd_ite (kW_X11_under_22 N p1.2) (kwd_bind (kW_X10_isKind N p1.2 x2) (fun p6 => (kwd_ite (kW_X11_under_22 N p6.2) (kwd_bind (kW_X10_isUnder N p6.2 x1 x2) (fun p11 => (kwd_ite (kwd_some (rfl)) (kwd_some (rfl)))))))))))
theorem kWEE (N : Nat) : ∀ d : Nat, (∀ σ, Kwd (pWd σ) ((fEE N d).1 σ)) ∧ (∀ σ, Kwd (pWd σ) ((fEE N d).2 σ))
  | 0 => ⟨fun _ => kwd_none, fun _ => kwd_none⟩
  | d+1 => ⟨fun σ => kW_X1_factor N _ _ (kWEE N d).1 (kWEE N d).2 σ, fun σ => kW_X1_one N _ _ (kWEE N d).1 (kWEE N d).2 σ⟩
/-! the class: what the plain calls leave -/
def pCl (s : CS) : Int32 × Int32 × Int32 × Int32 × Int32 × (Nat → Int32) := (CS.i s 7, CS.i s 24, CS.i s 25, CS.i s 26, CS.i s 27, CS.a s 0)
def Kcl {α : Type} (v : Int32 × Int32 × Int32 × Int32 × Int32 × (Nat → Int32)) (t : Option (α × CS)) : Prop := ∀ R, t = some R → pCl R.2 = v
theorem kcl_some {α : Type} {v : Int32 × Int32 × Int32 × Int32 × Int32 × (Nat → Int32)} {r : α × CS} (h : pCl r.2 = v) : Kcl v (some r) := fun R q => by
  cases q
  exact h
theorem kcl_none {α : Type} {v : Int32 × Int32 × Int32 × Int32 × Int32 × (Nat → Int32)} : Kcl v (none : Option (α × CS)) := fun R q => by cases q
theorem kcl_ite {α : Type} {v : Int32 × Int32 × Int32 × Int32 × Int32 × (Nat → Int32)} {c : Prop} [Decidable c] {x y : Option (α × CS)} (hx : Kcl v x) (hy : Kcl v y) : Kcl v (if c then x else y) := by
  by_cases h : c
  · rw [if_pos h]; exact hx
  · rw [if_neg h]; exact hy
theorem kcl_bind {α β : Type} {v : Int32 × Int32 × Int32 × Int32 × Int32 × (Nat → Int32)} {x : Option (α × CS)} {g : α × CS → Option (β × CS)} (hx : Kcl v x) (hk : ∀ p : α × CS, Kcl (pCl p.2) (g p)) : Kcl v (x.bind g) := by
  intro R h
  obtain ⟨p, h1, h2⟩ := hf_bind h
  exact (hk p R h2).trans (hx p h1)
theorem kcl_oc {α β : Type} {v : Int32 × Int32 × Int32 × Int32 × Int32 × (Nat → Int32)} {r : Option α} {x : Option (β × CS)} {g : α → Option (β × CS)} (hx : Kcl v x) (hf : ∀ a, Kcl v (g a)) : Kcl v (oCase r x g) := by
  cases r with
  | none => exact hx
  | some a => exact hf a
theorem kcl_le {α : Type} {v w : Int32 × Int32 × Int32 × Int32 × Int32 × (Nat → Int32)} {t : Option (α × CS)} (h : v = w) (ht : Kcl v t) : Kcl w t := by rw [← h]; exact ht
theorem kC_X10_isKind_16 (N : Nat) (σ : CS) : Kcl (pCl σ) (f_X10_isKind_16 N σ ) := by
  unfold f_X10_isKind_16
  exact (kcl_some (rfl))
theorem kC_X10_isKind (N : Nat) (σ : CS) (x1 : Int32) : Kcl (pCl σ) (f_X10_isKind N σ x1) := by
  unfold f_X10_isKind
  exact (kcl_ite (kC_X10_isKind_16 N σ) (kcl_ite (kC_X10_isKind_16 N σ) (kcl_some (rfl))))
theorem kC_X10_isUnder_38 (N : Nat) (σ : CS) : Kcl (pCl σ) (f_X10_isUnder_38 N σ ) := by
  unfold f_X10_isUnder_38
  exact (kcl_some (rfl))
theorem kCb_X10_isUnder_5 (N : Nat) (K : CS → Int32 → Int32 → Int32 → Option (Int32 × CS)) (hMK : ∀ (σ : CS) (x2 : Int32) (x3 : Int32) (x4 : Int32), Kcl (pCl σ) (K σ x2 x3 x4)) (σ : CS) (x2 : Int32) (x3 : Int32) (x4 : Int32) : Kcl (pCl σ) (b_X10_isUnder_5 N K σ x2 x3 x4) := by
  unfold b_X10_isUnder_5
  exact (kcl_ite (kC_X10_isUnder_38 N σ) (kcl_ite (kC_X10_isUnder_38 N σ) (kcl_ite (kcl_some (rfl)) (hMK σ x2 (gAt (σ.a 9) 12 x3) (x4 + 1)))))
theorem kC_X10_isUnder_5 (N : Nat) : ∀ (n : Nat) (σ : CS) (x2 : Int32) (x3 : Int32) (x4 : Int32), Kcl (pCl σ) (f_X10_isUnder_5 N n σ x2 x3 x4)
  | 0, _, _, _, _ => kcl_none
  | n+1, σ, x2, x3, x4 => kCb_X10_isUnder_5 N (f_X10_isUnder_5 N n) (fun σ x2 x3 x4 => kC_X10_isUnder_5 N n σ x2 x3 x4) σ x2 x3 x4
theorem kC_X10_isUnder (N : Nat) (σ : CS) (x1 : Int32) (x2 : Int32) : Kcl (pCl σ) (f_X10_isUnder N σ x1 x2) := by
  unfold f_X10_isUnder
  exact (kC_X10_isUnder_5 N N σ x2 x1 0)
theorem kC_X3_lastThrown (N : Nat) (σ : CS) : Kcl (pCl σ) (f_X3_lastThrown N σ) := by
  unfold f_X3_lastThrown
  exact (kcl_ite (kcl_oc (kcl_some (rfl)) (fun a3 => (kcl_some (rfl)))) (kcl_some (rfl)))
theorem kC_X3_answer (N : Nat) (σ : CS) (x1 : Int32) : Kcl (pCl σ) (f_X3_answer N σ x1) := by
  unfold f_X3_answer
  exact (kcl_bind (kC_X3_lastThrown N σ) (fun p1 => (kcl_oc (kcl_ite (kcl_some (rfl)) (kcl_ite (kcl_some (rfl)) (kcl_ite (kcl_ite (kcl_some (rfl)) (kcl_some (rfl))) (kcl_ite (kcl_some (rfl)) (kcl_ite (kcl_some (rfl)) (kcl_ite (kcl_some (rfl)) (kcl_some (rfl)))))))) (fun a6 => (kcl_ite (kcl_some (rfl)) (kcl_ite (kcl_some (rfl)) (kcl_ite (kcl_ite (kcl_some (rfl)) (kcl_some (rfl))) (kcl_ite (kcl_ite (kcl_some (rfl)) kcl_none) (kcl_ite (kcl_ite (kcl_some (rfl)) kcl_none) (kcl_ite (kcl_ite (kcl_some (rfl)) kcl_none) (kcl_some (rfl))))))))))))
theorem kC_X10_isFull (N : Nat) (σ : CS) : Kcl (pCl σ) (f_X10_isFull N σ) := by
  unfold f_X10_isFull
  exact (kcl_ite (kcl_some (rfl)) (kcl_some (rfl)))
theorem kC_X10_addKind (N : Nat) (σ : CS) (x1 : Int32) : Kcl (pCl σ) (f_X10_addKind N σ x1) := by
  unfold f_X10_addKind
  exact (kcl_some (rfl))
theorem kC_X10_tellResource (N : Nat) (σ : CS) (x1 : Int32) (x2 : Int32) (x3 : Int32) (x4 : Int32) : Kcl (pCl σ) (f_X10_tellResource N σ x1 x2 x3 x4) := by
  unfold f_X10_tellResource
  exact (kcl_some (rfl))
theorem kC_X11_cut_12 (N : Nat) (σ : CS) : Kcl (pCl σ) (f_X11_cut_12 N σ ) := by
  unfold f_X11_cut_12
  exact (kcl_some (rfl))
theorem kC_X11_cut (N : Nat) (σ : CS) (x1 : Int32) : Kcl (pCl σ) (f_X11_cut N σ x1) := by
  unfold f_X11_cut
  exact (kcl_ite (kC_X11_cut_12 N σ) (kcl_ite (kcl_some (rfl)) (kC_X11_cut_12 N σ)))
theorem kC_X11_kind (N : Nat) (σ : CS) (x1 : Int32) : Kcl (pCl σ) (f_X11_kind N σ x1) := by
  unfold f_X11_kind
  exact (kcl_bind (kC_X10_isKind N σ x1) (fun p1 => (kcl_ite (kcl_some (rfl)) (kcl_bind (kC_X10_isFull N p1.2) (fun p6 => (kcl_ite (kcl_bind (kC_X10_addKind N p6.2 x1) (fun p11 => (kcl_some (rfl)))) (kcl_some (rfl))))))))
theorem kC_X11_isKindOrNothing_16 (N : Nat) (σ : CS) : Kcl (pCl σ) (f_X11_isKindOrNothing_16 N σ ) := by
  unfold f_X11_isKindOrNothing_16
  exact (kcl_some (rfl))
theorem kC_X11_isKindOrNothing (N : Nat) (σ : CS) (x1 : Int32) : Kcl (pCl σ) (f_X11_isKindOrNothing N σ x1) := by
  unfold f_X11_isKindOrNothing
  exact (kcl_ite (kC_X11_isKindOrNothing_16 N σ) (kcl_bind (kC_X10_isKind N σ x1) (fun p2 => (kcl_ite (kcl_some (rfl)) (kC_X11_isKindOrNothing_16 N p2.2)))))
theorem kC_X11_resource_19 (N : Nat) (σ : CS) : Kcl (pCl σ) (f_X11_resource_19 N σ ) := by
  unfold f_X11_resource_19
  exact (kcl_some (rfl))
theorem kC_X11_resource_38 (N : Nat) (σ : CS) : Kcl (pCl σ) (f_X11_resource_38 N σ ) := by
  unfold f_X11_resource_38
  exact (kcl_some (rfl))
theorem kC_X11_resource (N : Nat) (σ : CS) (x1 : Int32) (x2 : Int32) (x3 : Int32) (x4 : Int32) : Kcl (pCl σ) (f_X11_resource N σ x1 x2 x3 x4) := by
  unfold f_X11_resource
  exact (kcl_ite (kC_X11_resource_19 N σ) (kcl_ite (kC_X11_resource_19 N σ) (kcl_ite (kC_X11_resource_19 N σ) (kcl_ite (kcl_bind (kC_X11_isKindOrNothing N σ x3) (fun p5 => (kcl_ite (kC_X11_resource_38 N p5.2) (kcl_bind (kC_X11_isKindOrNothing N p5.2 x4) (fun p10 => (kcl_ite (kC_X11_resource_38 N p10.2) (kcl_bind (kC_X10_tellResource N p10.2 x1 x2 x3 x4) (fun p15 => (kcl_some (rfl)))))))))) (kC_X11_resource_19 N σ)))))
theorem kC_X11_asserts_16 (N : Nat) (σ : CS) (x1 : Int32) (x2 : Int32) : Kcl (pCl σ) (f_X11_asserts_16 N σ x1 x2) := by
  unfold f_X11_asserts_16
  exact (kcl_ite (kcl_some (rfl)) kcl_none)
theorem kC_X11_asserts (N : Nat) (σ : CS) (x1 : Int32) : Kcl (pCl σ) (f_X11_asserts N σ x1) := by
  unfold f_X11_asserts
  exact (kcl_ite (kC_X11_asserts_16 N σ x1 0) (kC_X11_asserts_16 N σ x1 1))
theorem kC_X11_fault (N : Nat) (σ : CS) : Kcl (pCl σ) (f_X11_fault N σ) := by
  unfold f_X11_fault
  exact (kcl_some (rfl))
theorem kC_X11_program_9 (N : Nat) (σ : CS) : Kcl (pCl σ) (f_X11_program_9 N σ ) := by
  unfold f_X11_program_9
  exact (kcl_some (rfl))
theorem kC_X11_program (N : Nat) (σ : CS) (x1 : Int32) : Kcl (pCl σ) (f_X11_program N σ x1) := by
  unfold f_X11_program
  exact (kcl_ite (kC_X11_program_9 N σ) (kcl_ite (kcl_ite (kcl_some (rfl)) (kcl_ite (kcl_some (rfl)) (kcl_ite (kcl_ite (kcl_some (rfl)) (kcl_some (rfl))) (kcl_ite (kcl_some (rfl)) (kcl_some (rfl)))))) (kC_X11_program_9 N σ)))
theorem kC_X11_ran_10 (N : Nat) (σ : CS) : Kcl (pCl σ) (f_X11_ran_10 N σ ) := by
  unfold f_X11_ran_10
  exact (kcl_some (rfl))
theorem kC_X11_ran (N : Nat) (σ : CS) (x1 : Int32) : Kcl (pCl σ) (f_X11_ran N σ x1) := by
  unfold f_X11_ran
  exact (kcl_ite (kC_X11_ran_10 N σ) (kcl_ite (kcl_ite (kcl_some (rfl)) (kcl_bind (kC_X3_answer N σ x1) (fun p4 => (kcl_some (rfl))))) (kC_X11_ran_10 N σ)))
theorem kC_X11_trace_31 (N : Nat) (σ : CS) : Kcl (pCl σ) (f_X11_trace_31 N σ ) := by
  unfold f_X11_trace_31
  exact (kcl_some (rfl))
theorem kC_X11_trace (N : Nat) (σ : CS) (x1 : Int32) (x2 : Int32) : Kcl (pCl σ) (f_X11_trace N σ x1 x2) := by
  unfold f_X11_trace
  exact (kcl_ite (kC_X11_trace_31 N σ) (kcl_ite (kC_X11_trace_31 N σ) (kcl_ite (kC_X11_trace_31 N σ) (kcl_ite (kC_X11_trace_31 N σ) (kcl_ite (kcl_some (rfl)) (kC_X11_trace_31 N σ))))))
theorem kC_X11_suppressed_44 (N : Nat) (σ : CS) : Kcl (pCl σ) (f_X11_suppressed_44 N σ ) := by
  unfold f_X11_suppressed_44
  exact (kcl_some (rfl))
theorem kC_X11_suppressed_19 (N : Nat) (σ : CS) (x1 : Int32) (x2 : Int32) (x3 : Option Nat) : Kcl (pCl σ) (f_X11_suppressed_19 N σ x1 x2 x3) := by
  unfold f_X11_suppressed_19
  exact (kcl_oc (kC_X11_suppressed_44 N σ) (fun a3 => (kcl_ite (kC_X11_suppressed_44 N σ) (kcl_ite (kcl_ite (kC_X11_suppressed_44 N σ) (kcl_ite (kC_X11_suppressed_44 N σ) (kcl_ite (kcl_ite (kcl_ite (kcl_some (rfl)) kcl_none) (kcl_ite (kcl_some (rfl)) kcl_none)) (kC_X11_suppressed_44 N σ)))) kcl_none))))
theorem kC_X11_suppressed (N : Nat) (σ : CS) (x1 : Int32) (x2 : Int32) : Kcl (pCl σ) (f_X11_suppressed N σ x1 x2) := by
  unfold f_X11_suppressed
  exact (kcl_ite (kC_X11_suppressed_19 N σ x1 x2 none) (kcl_bind (kC_X3_lastThrown N σ) (fun p16 => (kcl_oc (kC_X11_suppressed_19 N p16.2 x1 x2 none) (fun a21 => (kC_X11_suppressed_19 N p16.2 x1 x2 (some a21)))))))
theorem kC_X11_under_22 (N : Nat) (σ : CS) : Kcl (pCl σ) (f_X11_under_22 N σ ) := by
  unfold f_X11_under_22
  exact (kcl_some (rfl))
theorem kC_X11_under (N : Nat) (σ : CS) (x1 : Int32) (x2 : Int32) : Kcl (pCl σ) (f_X11_under N σ x1 x2) := by
  unfold f_X11_under
  exact (kcl_bind (kC_X10_isKind N σ x1) (fun p1 => (kcl_ite (kC_X11_under_22 N p1.2) (kcl_bind (kC_X10_isKind N p1.2 x2) (fun p6 => (kcl_ite (kC_X11_under_22 N p6.2) (kcl_bind (kC_X10_isUnder N p6.2 x1 x2) (fun p11 => (kcl_ite (kcl_some (rfl)) (kcl_some (rfl)))))))))))
end
section
/-! the reference: what its reading leaves alone -/
def pRw (s : RS) : Nat → Int64 := s.b 9
def KS9 (s r : RS) : Prop := pRw r = pRw s
theorem KS9.tr {s r u : RS} (h : KS9 s r) (g : KS9 r u) : KS9 s u := Eq.trans g h
def KR9 {α : Type} (s : RS) (t : Option (α × RS)) : Prop := ∀ R, t = some R → KS9 s R.2
def KV9 (s : RS) (t : Option RS) : Prop := ∀ R, t = some R → KS9 s R
theorem kr9_some {α : Type} {s : RS} {r : α × RS} (h : KS9 s r.2) : KR9 s (some r) := fun R q => by
  cases q
  exact h
theorem kv9_some {s r : RS} (h : KS9 s r) : KV9 s (some r) := fun R q => by
  cases q
  exact h
theorem kr9_none {α : Type} {s : RS} : KR9 s (none : Option (α × RS)) := fun R q => by cases q
theorem kv9_none {s : RS} : KV9 s (none : Option RS) := fun R q => by cases q
theorem kr9_ite {α : Type} {s : RS} {c : Prop} [Decidable c] {x y : Option (α × RS)} (hx : KR9 s x) (hy : KR9 s y) : KR9 s (if c then x else y) := by
  by_cases h : c
  · rw [if_pos h]; exact hx
  · rw [if_neg h]; exact hy
theorem kv9_ite {s : RS} {c : Prop} [Decidable c] {x y : Option RS} (hx : KV9 s x) (hy : KV9 s y) : KV9 s (if c then x else y) := by
  by_cases h : c
  · rw [if_pos h]; exact hx
  · rw [if_neg h]; exact hy
theorem kr9_st {α : Type} {s r : RS} {t : Option (α × RS)} (h : KS9 s r) (g : KR9 r t) : KR9 s t := fun R q => h.tr (g R q)
theorem kv9_st {s r : RS} {t : Option RS} (h : KS9 s r) (g : KV9 r t) : KV9 s t := fun R q => h.tr (g R q)
theorem kr9_bind {α β : Type} {s : RS} {x : Option (α × RS)} {k : α × RS → Option (β × RS)} (hx : KR9 s x) (hk : ∀ p : α × RS, KR9 p.2 (k p)) : KR9 s (x.bind k) := by
  intro R h
  obtain ⟨p, h1, h2⟩ := hf_bind h
  exact (hx p h1).tr (hk p R h2)
theorem kr9_bindv {β : Type} {s : RS} {x : Option RS} {k : RS → Option (β × RS)} (hx : KV9 s x) (hk : ∀ p : RS, KR9 p (k p)) : KR9 s (x.bind k) := by
  intro R h
  obtain ⟨p, h1, h2⟩ := hf_bind h
  exact (hx p h1).tr (hk p R h2)
theorem kv9_bind {α : Type} {s : RS} {x : Option (α × RS)} {k : α × RS → Option RS} (hx : KR9 s x) (hk : ∀ p : α × RS, KV9 p.2 (k p)) : KV9 s (x.bind k) := by
  intro R h
  obtain ⟨p, h1, h2⟩ := hf_bind h
  exact (hx p h1).tr (hk p R h2)
theorem kv9_bindv {s : RS} {x : Option RS} {k : RS → Option RS} (hx : KV9 s x) (hk : ∀ p : RS, KV9 p (k p)) : KV9 s (x.bind k) := by
  intro R h
  obtain ⟨p, h1, h2⟩ := hf_bind h
  exact (hx p h1).tr (hk p R h2)
theorem kr9_f_X12_thrown (N : Nat) (σ : RS) : KR9 σ (f_X12_thrown N σ) := by
  unfold f_X12_thrown
  exact (kr9_some rfl)
theorem kr9_f_X12_in_14 (N : Nat) (σ : RS) : KR9 σ (f_X12_in_14 N σ) := by
  unfold f_X12_in_14
  exact (kr9_some rfl)
theorem kr9_f_X12_in (N : Nat) (σ : RS) (x0 : Int32) (x1 : Int32) (x2 : Int32) : KR9 σ (f_X12_in N σ x0 x1 x2) := by
  unfold f_X12_in
  exact (kr9_ite (kr9_st rfl (kr9_f_X12_in_14 N σ)) (kr9_ite (kr9_st rfl (kr9_f_X12_in_14 N σ)) (kr9_some rfl)))
theorem kr9_f_X12_isUnder_21 (N : Nat) (σ : RS) (x2 : Int32) (x3 : Int32) : KR9 σ (f_X12_isUnder_21 N σ x2 x3) := by
  unfold f_X12_isUnder_21
  exact (kr9_ite (kr9_some rfl) (kr9_some rfl))
theorem kr9_b_X12_isUnder_2 (N : Nat) (K : RS → Int32 → Int32 → Option (Int32 × RS)) (hK : ∀ (σ : RS) (y0 : Int32) (y1 : Int32), KR9 σ (K σ y0 y1)) (σ : RS) (x2 : Int32) (x3 : Int32) : KR9 σ (b_X12_isUnder_2 N K σ x2 x3) := by
  unfold b_X12_isUnder_2
  exact (kr9_ite (kr9_st rfl (kr9_f_X12_isUnder_21 N σ x2 x3)) (kr9_ite (kr9_st rfl (kr9_f_X12_isUnder_21 N σ x2 x3)) (kr9_ite (kr9_st rfl (hK σ x2 (σ.a 4 ((x3 : Int32).toNatClampNeg)))) kr9_none)))
theorem kr9_f_X12_isUnder_2 (N : Nat) : ∀ (n : Nat) (σ : RS) (y0 : Int32) (y1 : Int32), KR9 σ (f_X12_isUnder_2 N n σ y0 y1)
  | 0, _, _, _ => kr9_none
  | n+1, σ, y0, y1 => kr9_b_X12_isUnder_2 N (f_X12_isUnder_2 N n) (fun σ y0 y1 => kr9_f_X12_isUnder_2 N n σ y0 y1) σ y0 y1
theorem kr9_f_X12_isUnder (N : Nat) (σ : RS) (x1 : Int32) (x2 : Int32) : KR9 σ (f_X12_isUnder N σ x1 x2) := by
  unfold f_X12_isUnder
  exact (kr9_st rfl (kr9_f_X12_isUnder_2 N N σ x2 x1))
theorem kr9_f_X12_under_33 (N : Nat) (σ : RS) : KR9 σ (f_X12_under_33 N σ) := by
  unfold f_X12_under_33
  exact (kr9_some rfl)
theorem kr9_f_X12_under (N : Nat) (σ : RS) (x1 : Int32) (x2 : Int32) : KR9 σ (f_X12_under N σ x1 x2) := by
  unfold f_X12_under
  exact (kr9_bind (kr9_st rfl (kr9_f_X12_in N (RS.setI σ 0 0) x1 0 ((σ.i 3) - 1))) (fun p1 => (kr9_ite (kr9_st rfl (kr9_f_X12_under_33 N p1.2)) (kr9_bind (kr9_st rfl (kr9_f_X12_in N p1.2 x2 0 ((p1.2.i 3) - 1))) (fun p4 => (kr9_ite (kr9_st rfl (kr9_f_X12_under_33 N p4.2)) (kr9_bind (kr9_st rfl (kr9_f_X12_isUnder N p4.2 x1 x2)) (fun p7 => (kr9_ite (kr9_some rfl) (kr9_some rfl))))))))))
theorem kr9_f_X12_resource_53 (N : Nat) (σ : RS) : KR9 σ (f_X12_resource_53 N σ) := by
  unfold f_X12_resource_53
  exact (kr9_some rfl)
theorem kr9_f_X12_resource_71 (N : Nat) (σ : RS) (x1 : Int32) (x3 : Int32) (x4 : Int32) : KR9 σ (f_X12_resource_71 N σ x1 x3 x4) := by
  unfold f_X12_resource_71
  exact (kr9_ite (kr9_some rfl) kr9_none)
theorem kr9_f_X12_resource (N : Nat) (σ : RS) (x1 : Int32) (x2 : Int32) (x3 : Int32) (x4 : Int32) : KR9 σ (f_X12_resource N σ x1 x2 x3 x4) := by
  unfold f_X12_resource
  exact (kr9_bind (kr9_st rfl (kr9_f_X12_in N (RS.setI σ 0 0) x1 0 7)) (fun p1 => (kr9_ite (kr9_st rfl (kr9_f_X12_resource_53 N p1.2)) (kr9_bind (kr9_st rfl (kr9_f_X12_in N p1.2 x2 0 1)) (fun p4 => (kr9_ite (kr9_st rfl (kr9_f_X12_resource_53 N p4.2)) (kr9_bind (kr9_st rfl (kr9_f_X12_in N p4.2 x3 (-1) ((p4.2.i 3) - 1))) (fun p7 => (kr9_ite (kr9_st rfl (kr9_f_X12_resource_53 N p7.2)) (kr9_bind (kr9_st rfl (kr9_f_X12_in N p7.2 x4 (-1) ((p7.2.i 3) - 1))) (fun p10 => (kr9_ite (kr9_st rfl (kr9_f_X12_resource_53 N p10.2)) (kr9_ite (kr9_ite (kr9_st rfl (kr9_f_X12_resource_71 N (RS.setA p10.2 5 ((x1 : Int32).toNatClampNeg) 1) x1 x3 x4)) kr9_none) (kr9_ite (kr9_st rfl (kr9_f_X12_resource_71 N (RS.setA p10.2 5 ((x1 : Int32).toNatClampNeg) 0) x1 x3 x4)) kr9_none))))))))))))))
theorem kr9_f_X12_at (N : Nat) (σ : RS) (x1 : Int32) : KR9 σ (f_X12_at N σ x1) := by
  unfold f_X12_at
  exact (kr9_ite (kr9_some rfl) (kr9_ite (kr9_some rfl) kr9_none))
theorem kr9_f_X12_isLetter_16 (N : Nat) (σ : RS) : KR9 σ (f_X12_isLetter_16 N σ) := by
  unfold f_X12_isLetter_16
  exact (kr9_some rfl)
theorem kr9_f_X12_isLetter (N : Nat) (σ : RS) (x0 : Int32) : KR9 σ (f_X12_isLetter N σ x0) := by
  unfold f_X12_isLetter
  exact (kr9_ite (kr9_st rfl (kr9_f_X12_isLetter_16 N σ)) (kr9_ite (kr9_st rfl (kr9_f_X12_isLetter_16 N σ)) (kr9_some rfl)))
theorem kr9_f_X12_isDigit_16 (N : Nat) (σ : RS) : KR9 σ (f_X12_isDigit_16 N σ) := by
  unfold f_X12_isDigit_16
  exact (kr9_some rfl)
theorem kr9_f_X12_isDigit (N : Nat) (σ : RS) (x0 : Int32) : KR9 σ (f_X12_isDigit N σ x0) := by
  unfold f_X12_isDigit
  exact (kr9_ite (kr9_st rfl (kr9_f_X12_isDigit_16 N σ)) (kr9_ite (kr9_st rfl (kr9_f_X12_isDigit_16 N σ)) (kr9_some rfl)))
theorem kr9_b_X12_readName_260 (N : Nat) (K : RS → Int32 → Option (RS)) (hK : ∀ (σ : RS) (y0 : Int32), KV9 σ (K σ y0)) (σ : RS) (x4 : Int32) : KV9 σ (b_X12_readName_260 N K σ x4) := by
  unfold b_X12_readName_260
  exact (kv9_ite (kv9_some rfl) (kv9_ite (kv9_ite (kv9_st rfl (hK (RS.setI σ 10 (410 + x4)) (x4 + 1))) (kv9_st rfl (hK (RS.setI σ 10 (σ.i 10)) (x4 + 1)))) kv9_none))
theorem kr9_f_X12_readName_260 (N : Nat) : ∀ (n : Nat) (σ : RS) (y0 : Int32), KV9 σ (f_X12_readName_260 N n σ y0)
  | 0, _, _ => kv9_none
  | n+1, σ, y0 => kr9_b_X12_readName_260 N (f_X12_readName_260 N n) (fun σ y0 => kr9_f_X12_readName_260 N n σ y0) σ y0
theorem kr9_f_X12_readName_257 (N : Nat) (σ : RS) : KV9 σ (f_X12_readName_257 N σ) := by
  unfold f_X12_readName_257
  exact (kv9_st rfl (kr9_f_X12_readName_260 N N σ 0))
theorem kr9_f_X12_readName_254 (N : Nat) (σ : RS) : KV9 σ (f_X12_readName_254 N σ) := by
  unfold f_X12_readName_254
  exact (kv9_some rfl)
theorem kr9_f_X12_readName_220 (N : Nat) (σ : RS) (x1 : Int32) (x3 : Int32) : KV9 σ (f_X12_readName_220 N σ x1 x3) := by
  unfold f_X12_readName_220
  exact (kv9_ite (kv9_st rfl (kr9_f_X12_readName_254 N (RS.setI (RS.setI σ 10 5) 14 x3))) (kv9_bind (kr9_st rfl (kr9_f_X12_at N (RS.setI σ 10 5) ((σ.i 11) + 2))) (fun p32 => (kv9_st rfl (kr9_f_X12_readName_254 N (RS.setI p32.2 14 ((10 + p32.1) - 48)))))))
theorem kr9_f_X12_readName_189 (N : Nat) (σ : RS) (x1 : Int32) (x3 : Int32) : KV9 σ (f_X12_readName_189 N σ x1 x3) := by
  unfold f_X12_readName_189
  exact (kv9_ite (kv9_ite (kv9_bind (kr9_st rfl (kr9_f_X12_at N σ ((σ.i 11) + 2))) (fun p26 => (kv9_bind (kr9_st rfl (kr9_f_X12_in N p26.2 (p26.1 - 48) 0 1)) (fun p28 => (kv9_ite (kv9_st rfl (kr9_f_X12_readName_257 N p28.2)) (kv9_st rfl (kr9_f_X12_readName_220 N p28.2 x1 x3))))))) (kv9_st rfl (kr9_f_X12_readName_257 N σ))) (kv9_st rfl (kr9_f_X12_readName_257 N σ)))
theorem kr9_f_X12_readName_168 (N : Nat) (σ : RS) (x1 : Int32) (x2 : Int32) (x3 : Int32) : KV9 σ (f_X12_readName_168 N σ x1 x2 x3) := by
  unfold f_X12_readName_168
  exact (kv9_ite (kv9_ite (kv9_bind (kr9_st rfl (kr9_f_X12_in N σ x3 0 9)) (fun p34 => (kv9_ite (kv9_st rfl (kr9_f_X12_readName_189 N p34.2 x1 x3)) (kv9_st rfl (kr9_f_X12_readName_220 N p34.2 x1 x3))))) (kv9_st rfl (kr9_f_X12_readName_189 N σ x1 x3))) (kv9_st rfl (kr9_f_X12_readName_257 N σ)))
theorem kr9_f_X12_readName_160 (N : Nat) (σ : RS) (x3 : Int32) : KV9 σ (f_X12_readName_160 N σ x3) := by
  unfold f_X12_readName_160
  exact (kv9_some rfl)
theorem kr9_f_X12_readName_135 (N : Nat) (σ : RS) (x1 : Int32) (x2 : Int32) (x3 : Int32) : KV9 σ (f_X12_readName_135 N σ x1 x2 x3) := by
  unfold f_X12_readName_135
  exact (kv9_bind (kr9_st rfl (kr9_f_X12_in N σ x3 0 7)) (fun p38 => (kv9_ite (kv9_st rfl (kr9_f_X12_readName_168 N p38.2 x1 x2 x3)) (kv9_ite (kv9_st rfl (kr9_f_X12_readName_160 N (RS.setI p38.2 10 3) x3)) (kv9_st rfl (kr9_f_X12_readName_160 N (RS.setI p38.2 10 4) x3))))))
theorem kr9_b_X12_readName_5 (N : Nat) (K : RS → Option (RS)) (hK : ∀ (σ : RS), KV9 σ (K σ)) (σ : RS) : KV9 σ (b_X12_readName_5 N K σ) := by
  unfold b_X12_readName_5
  exact (kv9_bind (kr9_st rfl (kr9_f_X12_at N σ (σ.i 12))) (fun p1 => (kv9_bind (kr9_st rfl (kr9_f_X12_isLetter N p1.2 p1.1)) (fun p3 => (kv9_ite (kv9_bind (kr9_st rfl (kr9_f_X12_at N p3.2 (p3.2.i 12))) (fun p8 => (kv9_bind (kr9_st rfl (kr9_f_X12_isDigit N p8.2 p8.1)) (fun p10 => (kv9_ite (kv9_ite (kv9_bind (kr9_st rfl (kr9_f_X12_at N p10.2 (p10.2.i 11))) (fun p14 => (kv9_bind (kr9_st rfl (kr9_f_X12_at N p14.2 ((p14.2.i 11) + 1))) (fun p16 => (kv9_ite (kv9_ite (kv9_st rfl (kr9_f_X12_readName_135 N (RS.setI p16.2 10 2) ((p10.2.i 12) - (p10.2.i 11)) p14.1 (p16.1 - 48))) (kv9_ite (kv9_st rfl (kr9_f_X12_readName_135 N (RS.setI p16.2 10 2) ((p10.2.i 12) - (p10.2.i 11)) p14.1 (p16.1 - 48))) (kv9_st rfl (kr9_f_X12_readName_168 N (RS.setI p16.2 10 2) ((p10.2.i 12) - (p10.2.i 11)) p14.1 (p16.1 - 48))))) (kv9_st rfl (kr9_f_X12_readName_168 N (RS.setI p16.2 10 2) ((p10.2.i 12) - (p10.2.i 11)) p14.1 (p16.1 - 48)))))))) (kv9_some rfl)) (kv9_bind (kr9_st rfl (kr9_f_X12_at N p10.2 (p10.2.i 12))) (fun p43 => (kv9_st rfl (hK (RS.setI (RS.setL p43.2 ((p10.2.l <<< ((8 : Int32).toInt64 &&& 63)) ||| (p43.1 : Int32).toInt64)) 12 ((p43.2.i 12) + 1))))))))))) (kv9_bind (kr9_st rfl (kr9_f_X12_at N p3.2 (p3.2.i 12))) (fun p6 => (kv9_st rfl (hK (RS.setI (RS.setL p6.2 ((p3.2.l <<< ((8 : Int32).toInt64 &&& 63)) ||| (p6.1 : Int32).toInt64)) 12 ((p6.2.i 12) + 1)))))))))))
theorem kr9_f_X12_readName_5 (N : Nat) : ∀ (n : Nat) (σ : RS), KV9 σ (f_X12_readName_5 N n σ )
  | 0, _ => kv9_none
  | n+1, σ => kr9_b_X12_readName_5 N (f_X12_readName_5 N n) (fun σ => kr9_f_X12_readName_5 N n σ) σ
theorem kr9_f_X12_readName (N : Nat) (σ : RS) : KV9 σ (f_X12_readName N σ) := by
  unfold f_X12_readName
  exact (kv9_st rfl (kr9_f_X12_readName_5 N N (RS.setL σ 0)))
theorem kr9_f_X12_readSign_306 (N : Nat) (σ : RS) (x1 : Int32) (x4 : Int32) : KV9 σ (f_X12_readSign_306 N σ x1 x4) := by
  unfold f_X12_readSign_306
  exact (kv9_ite (kv9_some rfl) (kv9_some rfl))
theorem kr9_f_X12_readSign_299 (N : Nat) (σ : RS) (x1 : Int32) : KV9 σ (f_X12_readSign_299 N σ x1) := by
  unfold f_X12_readSign_299
  exact (kv9_st rfl (kr9_f_X12_readSign_306 N σ x1 1))
theorem kr9_f_X12_readSign_165 (N : Nat) (σ : RS) (x1 : Int32) (x3 : Int32) : KV9 σ (f_X12_readSign_165 N σ x1 x3) := by
  unfold f_X12_readSign_165
  exact (kv9_ite (kv9_ite (kv9_st rfl (kr9_f_X12_readSign_299 N σ x1)) (kv9_ite (kv9_st rfl (kr9_f_X12_readSign_299 N σ x1)) (kv9_ite (kv9_st rfl (kr9_f_X12_readSign_299 N σ x1)) (kv9_ite (kv9_st rfl (kr9_f_X12_readSign_299 N σ x1)) (kv9_ite (kv9_st rfl (kr9_f_X12_readSign_299 N σ x1)) (kv9_ite (kv9_st rfl (kr9_f_X12_readSign_299 N σ x1)) (kv9_ite (kv9_st rfl (kr9_f_X12_readSign_299 N σ x1)) (kv9_ite (kv9_st rfl (kr9_f_X12_readSign_299 N σ x1)) (kv9_ite (kv9_st rfl (kr9_f_X12_readSign_299 N σ x1)) (kv9_ite (kv9_st rfl (kr9_f_X12_readSign_299 N σ x1)) (kv9_ite (kv9_st rfl (kr9_f_X12_readSign_299 N σ x1)) (kv9_ite (kv9_st rfl (kr9_f_X12_readSign_299 N σ x1)) (kv9_ite (kv9_st rfl (kr9_f_X12_readSign_299 N σ x1)) (kv9_ite (kv9_st rfl (kr9_f_X12_readSign_299 N σ x1)) (kv9_ite (kv9_st rfl (kr9_f_X12_readSign_299 N σ x1)) (kv9_ite (kv9_st rfl (kr9_f_X12_readSign_299 N σ x1)) (kv9_ite (kv9_st rfl (kr9_f_X12_readSign_299 N σ x1)) (kv9_ite (kv9_st rfl (kr9_f_X12_readSign_299 N σ x1)) (kv9_ite (kv9_st rfl (kr9_f_X12_readSign_299 N σ x1)) (kv9_st rfl (kr9_f_X12_readSign_306 N σ x1 0))))))))))))))))))))) (kv9_some rfl))
theorem kr9_f_X12_readSign_163 (N : Nat) (σ : RS) (x1 : Int32) : KV9 σ (f_X12_readSign_163 N σ x1) := by
  unfold f_X12_readSign_163
  exact (kv9_st rfl (kr9_f_X12_readSign_165 N σ x1 0))
theorem kr9_f_X12_readSign_145 (N : Nat) (σ : RS) (x1 : Int32) (x2 : Int32) : KV9 σ (f_X12_readSign_145 N σ x1 x2) := by
  unfold f_X12_readSign_145
  exact (kv9_ite (kv9_ite (kv9_st rfl (kr9_f_X12_readSign_165 N σ x1 307)) (kv9_st rfl (kr9_f_X12_readSign_163 N σ x1))) (kv9_st rfl (kr9_f_X12_readSign_163 N σ x1)))
theorem kr9_f_X12_readSign_127 (N : Nat) (σ : RS) (x1 : Int32) (x2 : Int32) : KV9 σ (f_X12_readSign_127 N σ x1 x2) := by
  unfold f_X12_readSign_127
  exact (kv9_ite (kv9_ite (kv9_st rfl (kr9_f_X12_readSign_165 N σ x1 306)) (kv9_st rfl (kr9_f_X12_readSign_145 N σ x1 x2))) (kv9_st rfl (kr9_f_X12_readSign_145 N σ x1 x2)))
theorem kr9_f_X12_readSign_109 (N : Nat) (σ : RS) (x1 : Int32) (x2 : Int32) : KV9 σ (f_X12_readSign_109 N σ x1 x2) := by
  unfold f_X12_readSign_109
  exact (kv9_ite (kv9_ite (kv9_st rfl (kr9_f_X12_readSign_165 N σ x1 305)) (kv9_st rfl (kr9_f_X12_readSign_127 N σ x1 x2))) (kv9_st rfl (kr9_f_X12_readSign_127 N σ x1 x2)))
theorem kr9_f_X12_readSign_91 (N : Nat) (σ : RS) (x1 : Int32) (x2 : Int32) : KV9 σ (f_X12_readSign_91 N σ x1 x2) := by
  unfold f_X12_readSign_91
  exact (kv9_ite (kv9_ite (kv9_st rfl (kr9_f_X12_readSign_165 N σ x1 304)) (kv9_st rfl (kr9_f_X12_readSign_109 N σ x1 x2))) (kv9_st rfl (kr9_f_X12_readSign_109 N σ x1 x2)))
theorem kr9_f_X12_readSign_73 (N : Nat) (σ : RS) (x1 : Int32) (x2 : Int32) : KV9 σ (f_X12_readSign_73 N σ x1 x2) := by
  unfold f_X12_readSign_73
  exact (kv9_ite (kv9_ite (kv9_st rfl (kr9_f_X12_readSign_165 N σ x1 303)) (kv9_st rfl (kr9_f_X12_readSign_91 N σ x1 x2))) (kv9_st rfl (kr9_f_X12_readSign_91 N σ x1 x2)))
theorem kr9_f_X12_readSign_55 (N : Nat) (σ : RS) (x1 : Int32) (x2 : Int32) : KV9 σ (f_X12_readSign_55 N σ x1 x2) := by
  unfold f_X12_readSign_55
  exact (kv9_ite (kv9_ite (kv9_st rfl (kr9_f_X12_readSign_165 N σ x1 302)) (kv9_st rfl (kr9_f_X12_readSign_73 N σ x1 x2))) (kv9_st rfl (kr9_f_X12_readSign_73 N σ x1 x2)))
theorem kr9_f_X12_readSign_37 (N : Nat) (σ : RS) (x1 : Int32) (x2 : Int32) : KV9 σ (f_X12_readSign_37 N σ x1 x2) := by
  unfold f_X12_readSign_37
  exact (kv9_ite (kv9_ite (kv9_st rfl (kr9_f_X12_readSign_165 N σ x1 301)) (kv9_st rfl (kr9_f_X12_readSign_55 N σ x1 x2))) (kv9_st rfl (kr9_f_X12_readSign_55 N σ x1 x2)))
theorem kr9_f_X12_readSign (N : Nat) (σ : RS) (x1 : Int32) : KV9 σ (f_X12_readSign N σ x1) := by
  unfold f_X12_readSign
  exact (kv9_bind (kr9_st rfl (kr9_f_X12_at N (RS.setI σ 12 ((σ.i 12) + 1)) ((σ.i 12) + 1))) (fun p1 => (kv9_ite (kv9_ite (kv9_st rfl (kr9_f_X12_readSign_165 N p1.2 x1 300)) (kv9_st rfl (kr9_f_X12_readSign_37 N p1.2 x1 p1.1))) (kv9_st rfl (kr9_f_X12_readSign_37 N p1.2 x1 p1.1)))))
theorem kr9_f_X12_next_211 (N : Nat) (σ : RS) : KV9 σ (f_X12_next_211 N σ) := by
  unfold f_X12_next_211
  exact (kv9_some rfl)
theorem kr9_b_X12_next_116 (N : Nat) (K : RS → Option (RS)) (hK : ∀ (σ : RS), KV9 σ (K σ)) (σ : RS) : KV9 σ (b_X12_next_116 N K σ) := by
  unfold b_X12_next_116
  exact (kv9_bind (kr9_st rfl (kr9_f_X12_at N σ (σ.i 12))) (fun p16 => (kv9_bind (kr9_st rfl (kr9_f_X12_isDigit N p16.2 p16.1)) (fun p18 => (kv9_ite (kv9_ite (kv9_st rfl (kr9_f_X12_next_211 N (RS.setI p18.2 10 1))) (kv9_st rfl (kr9_f_X12_next_211 N (RS.setI p18.2 10 6)))) (kv9_ite (kv9_st rfl (hK (RS.setI (RS.setI p18.2 14 (p18.2.i 14)) 12 ((p18.2.i 12) + 1)))) (kv9_bind (kr9_st rfl (kr9_f_X12_at N p18.2 (p18.2.i 12))) (fun p23 => (kv9_st rfl (hK (RS.setI (RS.setI p23.2 14 (((10 * (p18.2.i 14)) + p23.1) - 48)) 12 ((p23.2.i 12) + 1))))))))))))
theorem kr9_f_X12_next_116 (N : Nat) : ∀ (n : Nat) (σ : RS), KV9 σ (f_X12_next_116 N n σ )
  | 0, _ => kv9_none
  | n+1, σ => kr9_b_X12_next_116 N (f_X12_next_116 N n) (fun σ => kr9_f_X12_next_116 N n σ) σ
theorem kr9_f_X12_next_68 (N : Nat) (σ : RS) : KV9 σ (f_X12_next_68 N σ) := by
  unfold f_X12_next_68
  exact (kv9_bind (kr9_st rfl (kr9_f_X12_at N (RS.setI σ 11 (σ.i 12)) (σ.i 12))) (fun p3 => (kv9_ite (kv9_some rfl) (kv9_bind (kr9_st rfl (kr9_f_X12_isDigit N p3.2 p3.1)) (fun p6 => (kv9_ite (kv9_bind (kr9_st rfl (kr9_f_X12_isLetter N p6.2 p3.1)) (fun p9 => (kv9_ite (kv9_bindv (kv9_st rfl (kr9_f_X12_readSign N p9.2 p3.1)) (fun p12 => (kv9_some rfl))) (kv9_bindv (kv9_st rfl (kr9_f_X12_readName N p9.2)) (fun p14 => (kv9_some rfl)))))) (kv9_st rfl (kr9_f_X12_next_116 N N (RS.setI p6.2 14 0)))))))))
theorem kr9_b_X12_next_18 (N : Nat) (K : RS → Option (RS)) (hK : ∀ (σ : RS), KV9 σ (K σ)) (σ : RS) : KV9 σ (b_X12_next_18 N K σ) := by
  unfold b_X12_next_18
  exact (kv9_ite (kv9_st rfl (kr9_f_X12_next_68 N σ)) (kv9_bind (kr9_st rfl (kr9_f_X12_at N σ (σ.i 12))) (fun p25 => (kv9_ite (kv9_st rfl (hK (RS.setI p25.2 12 ((p25.2.i 12) + 1)))) (kv9_bind (kr9_st rfl (kr9_f_X12_at N p25.2 (p25.2.i 12))) (fun p28 => (kv9_ite (kv9_st rfl (hK (RS.setI p28.2 12 ((p28.2.i 12) + 1)))) (kv9_st rfl (kr9_f_X12_next_68 N p28.2)))))))))
theorem kr9_f_X12_next_18 (N : Nat) : ∀ (n : Nat) (σ : RS), KV9 σ (f_X12_next_18 N n σ )
  | 0, _ => kv9_none
  | n+1, σ => kr9_b_X12_next_18 N (f_X12_next_18 N n) (fun σ => kr9_f_X12_next_18 N n σ) σ
theorem kr9_f_X12_next (N : Nat) (σ : RS) : KV9 σ (f_X12_next N σ) := by
  unfold f_X12_next
  exact (kv9_ite (kv9_st rfl (kr9_f_X12_next_18 N N (RS.setI σ 17 ((σ.i 17) + 1)))) (kv9_some rfl))
theorem kr9_f_X12_fail (N : Nat) (σ : RS) (x1 : Int32) (x2 : Int32) : KV9 σ (f_X12_fail N σ x1 x2) := by
  unfold f_X12_fail
  exact (kv9_ite (kv9_some rfl) (kv9_some rfl))
theorem kr9_f_X12_note (N : Nat) (σ : RS) (x1 : Int32) : KV9 σ (f_X12_note N σ x1) := by
  unfold f_X12_note
  exact (kv9_ite (kv9_ite (kv9_some rfl) (kv9_some rfl)) (kv9_some rfl))
theorem kr9_f_X12_can_42 (N : Nat) (σ : RS) : KR9 σ (f_X12_can_42 N σ) := by
  unfold f_X12_can_42
  exact (kr9_ite (kr9_some rfl) (kr9_some rfl))
theorem kr9_f_X12_can_20 (N : Nat) (σ : RS) : KR9 σ (f_X12_can_20 N σ) := by
  unfold f_X12_can_20
  exact (kr9_ite (kr9_bindv (kv9_st rfl (kr9_f_X12_fail N σ 1 (σ.i 11))) (fun p7 => (kr9_st rfl (kr9_f_X12_can_42 N p7)))) (kr9_bindv (kv9_st rfl (kr9_f_X12_fail N σ 2 (σ.i 11))) (fun p5 => (kr9_st rfl (kr9_f_X12_can_42 N p5)))))
theorem kr9_f_X12_can (N : Nat) (σ : RS) (x1 : Int32) : KR9 σ (f_X12_can N σ x1) := by
  unfold f_X12_can
  exact (kr9_ite (kr9_ite (kr9_st rfl (kr9_f_X12_can_20 N σ)) (kr9_ite (kr9_st rfl (kr9_f_X12_can_20 N σ)) (kr9_st rfl (kr9_f_X12_can_42 N σ)))) (kr9_st rfl (kr9_f_X12_can_42 N σ)))
theorem kr9_f_X12_need_31 (N : Nat) (σ : RS) : KR9 σ (f_X12_need_31 N σ) := by
  unfold f_X12_need_31
  exact (kr9_ite (kr9_some rfl) (kr9_some rfl))
theorem kr9_f_X12_need_27 (N : Nat) (σ : RS) : KR9 σ (f_X12_need_27 N σ) := by
  unfold f_X12_need_27
  exact (kr9_bindv (kv9_st rfl (kr9_f_X12_next N σ)) (fun p7 => (kr9_st rfl (kr9_f_X12_need_31 N p7))))
theorem kr9_f_X12_need (N : Nat) (σ : RS) (x1 : Int32) : KR9 σ (f_X12_need N σ x1) := by
  unfold f_X12_need
  exact (kr9_ite (kr9_ite (kr9_bind (kr9_st rfl (kr9_f_X12_can N σ 1)) (fun p9 => (kr9_ite (kr9_st rfl (kr9_f_X12_need_31 N p9.2)) (kr9_st rfl (kr9_f_X12_need_27 N p9.2))))) (kr9_bind (kr9_st rfl (kr9_f_X12_can N σ 0)) (fun p4 => (kr9_ite (kr9_st rfl (kr9_f_X12_need_31 N p4.2)) (kr9_st rfl (kr9_f_X12_need_27 N p4.2)))))) (kr9_st rfl (kr9_f_X12_need_31 N σ)))
theorem kr9_f_X12_opens_29 (N : Nat) (σ : RS) : KR9 σ (f_X12_opens_29 N σ) := by
  unfold f_X12_opens_29
  exact (kr9_ite (kr9_some rfl) (kr9_some rfl))
theorem kr9_f_X12_opens (N : Nat) (σ : RS) : KR9 σ (f_X12_opens N σ) := by
  unfold f_X12_opens
  exact (kr9_ite (kr9_st rfl (kr9_f_X12_opens_29 N (RS.setI σ 19 ((σ.i 19) + 1)))) (kr9_bindv (kv9_st rfl (kr9_f_X12_fail N (RS.setI σ 19 ((σ.i 19) + 1)) 6 (σ.i 11))) (fun p3 => (kr9_st rfl (kr9_f_X12_opens_29 N p3)))))
theorem kr9_f_X12_open_38 (N : Nat) (σ : RS) : KR9 σ (f_X12_open_38 N σ) := by
  unfold f_X12_open_38
  exact (kr9_ite (kr9_some rfl) (kr9_some rfl))
theorem kr9_f_X12_open_27 (N : Nat) (σ : RS) : KR9 σ (f_X12_open_27 N σ) := by
  unfold f_X12_open_27
  exact (kr9_bind (kr9_st rfl (kr9_f_X12_opens N σ)) (fun p7 => (kr9_ite (kr9_st rfl (kr9_f_X12_open_38 N p7.2)) (kr9_bindv (kv9_st rfl (kr9_f_X12_next N p7.2)) (fun p10 => (kr9_st rfl (kr9_f_X12_open_38 N p10)))))))
theorem kr9_f_X12_open (N : Nat) (σ : RS) (x1 : Int32) : KR9 σ (f_X12_open N σ x1) := by
  unfold f_X12_open
  exact (kr9_ite (kr9_ite (kr9_bind (kr9_st rfl (kr9_f_X12_can N σ 1)) (fun p12 => (kr9_ite (kr9_st rfl (kr9_f_X12_open_38 N p12.2)) (kr9_st rfl (kr9_f_X12_open_27 N p12.2))))) (kr9_bind (kr9_st rfl (kr9_f_X12_can N σ 0)) (fun p4 => (kr9_ite (kr9_st rfl (kr9_f_X12_open_38 N p4.2)) (kr9_st rfl (kr9_f_X12_open_27 N p4.2)))))) (kr9_st rfl (kr9_f_X12_open_38 N σ)))
theorem kr9_f_X12_shut_18 (N : Nat) (σ : RS) : KR9 σ (f_X12_shut_18 N σ) := by
  unfold f_X12_shut_18
  exact (kr9_ite (kr9_some rfl) (kr9_some rfl))
theorem kr9_f_X12_shut (N : Nat) (σ : RS) (x1 : Int32) : KR9 σ (f_X12_shut N σ x1) := by
  unfold f_X12_shut
  exact (kr9_bind (kr9_st rfl (kr9_f_X12_need N σ x1)) (fun p1 => (kr9_ite (kr9_st rfl (kr9_f_X12_shut_18 N p1.2)) (kr9_st rfl (kr9_f_X12_shut_18 N (RS.setI p1.2 19 ((p1.2.i 19) - 1)))))))
theorem kr9_f_X12_emit_21 (N : Nat) (σ : RS) (x1 : Int32) (x2 : Int32) (x3 : Int32) : KR9 σ (f_X12_emit_21 N σ x1 x2 x3) := by
  unfold f_X12_emit_21
  exact (kr9_ite (kr9_some rfl) kr9_none)
theorem kr9_f_X12_emit (N : Nat) (σ : RS) (x1 : Int32) (x2 : Int32) : KR9 σ (f_X12_emit N σ x1 x2) := by
  unfold f_X12_emit
  exact (kr9_ite (kr9_st rfl (kr9_f_X12_emit_21 N σ x1 x2 2999)) (kr9_st rfl (kr9_f_X12_emit_21 N σ x1 x2 (σ.i 20))))
theorem kr9_b_X12_seenAs_7 (N : Nat) (K : RS → Int64 → Int32 → Option (Int32 × RS)) (hK : ∀ (σ : RS) (y0 : Int64) (y1 : Int32), KR9 σ (K σ y0 y1)) (σ : RS) (x1 : Int64) (x3 : Int32) : KR9 σ (b_X12_seenAs_7 N K σ x1 x3) := by
  unfold b_X12_seenAs_7
  exact (kr9_ite (kr9_some rfl) (kr9_ite (kr9_ite (kr9_some rfl) (kr9_st rfl (hK σ x1 (x3 + (-1))))) kr9_none))
theorem kr9_f_X12_seenAs_7 (N : Nat) : ∀ (n : Nat) (σ : RS) (y0 : Int64) (y1 : Int32), KR9 σ (f_X12_seenAs_7 N n σ y0 y1)
  | 0, _, _, _ => kr9_none
  | n+1, σ, y0, y1 => kr9_b_X12_seenAs_7 N (f_X12_seenAs_7 N n) (fun σ y0 y1 => kr9_f_X12_seenAs_7 N n σ y0 y1) σ y0 y1
theorem kr9_f_X12_seenAs (N : Nat) (σ : RS) (x1 : Int64) : KR9 σ (f_X12_seenAs N σ x1) := by
  unfold f_X12_seenAs
  exact (kr9_st rfl (kr9_f_X12_seenAs_7 N N σ x1 ((σ.i 38) - 1)))
theorem kr9_f_X12_see (N : Nat) (σ : RS) (x1 : Int64) (x3 : Int32) : KR9 σ (f_X12_see N σ x1 x3) := by
  unfold f_X12_see
  exact (kr9_ite (kr9_some rfl) kr9_none)
theorem kr9_f_X12_goal (N : Nat) (σ : RS) (x1 : Int32) (x2 : Int64) : KR9 σ (f_X12_goal N σ x1 x2) := by
  unfold f_X12_goal
  exact (kr9_ite (kr9_some rfl) kr9_none)
theorem kr9_f_X12_loopGoal_49 (N : Nat) (σ : RS) (x1 : Int32) : KR9 σ (f_X12_loopGoal_49 N σ x1) := by
  unfold f_X12_loopGoal_49
  exact (kr9_some rfl)
theorem kr9_b_X12_loopGoal_11 (N : Nat) (K : RS → Int32 → Int32 → Option (Int32 × RS)) (hK : ∀ (σ : RS) (y0 : Int32) (y1 : Int32), KR9 σ (K σ y0 y1)) (σ : RS) (x1 : Int32) (x2 : Int32) : KR9 σ (b_X12_loopGoal_11 N K σ x1 x2) := by
  unfold b_X12_loopGoal_11
  exact (kr9_ite (kr9_st rfl (kr9_f_X12_loopGoal_49 N σ x1)) (kr9_ite (kr9_ite (kr9_ite (kr9_st rfl (hK (RS.setA σ 46 ((x2 : Int32).toNatClampNeg) x1) x1 (x2 + (-1)))) (kr9_st rfl (kr9_f_X12_loopGoal_49 N σ x1))) (kr9_st rfl (kr9_f_X12_loopGoal_49 N σ x1))) kr9_none))
theorem kr9_f_X12_loopGoal_11 (N : Nat) : ∀ (n : Nat) (σ : RS) (y0 : Int32) (y1 : Int32), KR9 σ (f_X12_loopGoal_11 N n σ y0 y1)
  | 0, _, _, _ => kr9_none
  | n+1, σ, y0, y1 => kr9_b_X12_loopGoal_11 N (f_X12_loopGoal_11 N n) (fun σ y0 y1 => kr9_f_X12_loopGoal_11 N n σ y0 y1) σ y0 y1
theorem kr9_f_X12_loopGoal (N : Nat) (σ : RS) : KR9 σ (f_X12_loopGoal N σ) := by
  unfold f_X12_loopGoal
  exact (kr9_bind (kr9_st rfl (kr9_f_X12_goal N σ 0 0)) (fun p1 => (kr9_st rfl (kr9_f_X12_loopGoal_11 N N p1.2 p1.1 (p1.1 - 1)))))
theorem kr9_b_X12_patch_2 (N : Nat) (K : RS → Int32 → Int32 → Option (RS)) (hK : ∀ (σ : RS) (y0 : Int32) (y1 : Int32), KV9 σ (K σ y0 y1)) (σ : RS) (x2 : Int32) (x3 : Int32) : KV9 σ (b_X12_patch_2 N K σ x2 x3) := by
  unfold b_X12_patch_2
  exact (kv9_ite (kv9_some rfl) (kv9_ite (kv9_st rfl (hK (RS.setA σ 22 ((x3 : Int32).toNatClampNeg) x2) x2 (σ.a 22 ((x3 : Int32).toNatClampNeg)))) kv9_none))
theorem kr9_f_X12_patch_2 (N : Nat) : ∀ (n : Nat) (σ : RS) (y0 : Int32) (y1 : Int32), KV9 σ (f_X12_patch_2 N n σ y0 y1)
  | 0, _, _, _ => kv9_none
  | n+1, σ, y0, y1 => kr9_b_X12_patch_2 N (f_X12_patch_2 N n) (fun σ y0 y1 => kr9_f_X12_patch_2 N n σ y0 y1) σ y0 y1
theorem kr9_f_X12_patch (N : Nat) (σ : RS) (x1 : Int32) (x2 : Int32) : KV9 σ (f_X12_patch N σ x1 x2) := by
  unfold f_X12_patch
  exact (kv9_st rfl (kr9_f_X12_patch_2 N N σ x2 x1))
theorem kr9_f_X12_goes (N : Nat) (σ : RS) (x1 : Int32) (x2 : Int32) : KV9 σ (f_X12_goes N σ x1 x2) := by
  unfold f_X12_goes
  exact (kv9_ite (kv9_ite (kv9_some rfl) kv9_none) (kv9_ite (kv9_some rfl) kv9_none))
theorem kr9_f_X12_pend_22 (N : Nat) (σ : RS) (x1 : Int32) (x2 : Int32) : KV9 σ (f_X12_pend_22 N σ x1 x2) := by
  unfold f_X12_pend_22
  exact (kv9_bindv (kv9_st rfl (kr9_f_X12_goes N σ x1 x2)) (fun p2 => (kv9_some rfl)))
theorem kr9_f_X12_pend (N : Nat) (σ : RS) (x1 : Int32) (x2 : Int32) : KV9 σ (f_X12_pend N σ x1 x2) := by
  unfold f_X12_pend
  exact (kv9_ite (kv9_st rfl (kr9_f_X12_pend_22 N σ x1 x2)) (kv9_ite (kv9_ite (kv9_ite (kv9_some rfl) kv9_none) (kv9_st rfl (kr9_f_X12_pend_22 N σ x1 x2))) kv9_none))
theorem kr9_b_X12_resolve_2 (N : Nat) (K : RS → Int32 → Int32 → Int32 → Option (RS)) (hK : ∀ (σ : RS) (y0 : Int32) (y1 : Int32) (y2 : Int32), KV9 σ (K σ y0 y1 y2)) (σ : RS) (x1 : Int32) (x2 : Int32) (x3 : Int32) : KV9 σ (b_X12_resolve_2 N K σ x1 x2 x3) := by
  unfold b_X12_resolve_2
  exact (kv9_ite (kv9_some rfl) (kv9_ite (kv9_ite (kv9_ite (kv9_st rfl (hK (RS.setA σ 62 ((x3 : Int32).toNatClampNeg) (-1)) x1 x2 (x3 + 1))) (kv9_ite (kv9_bindv (kv9_st rfl (kr9_f_X12_goes N (RS.setA σ 62 ((x3 : Int32).toNatClampNeg) (-1)) (σ.a 60 ((x3 : Int32).toNatClampNeg)) (σ.a 61 ((x3 : Int32).toNatClampNeg)))) (fun p8 => (kv9_st rfl (hK p8 x1 x2 (x3 + 1))))) (kv9_ite (kv9_ite (kv9_bindv (kv9_st rfl (kr9_f_X12_goes N (RS.setA σ 62 ((x3 : Int32).toNatClampNeg) (-1)) (σ.a 60 ((x3 : Int32).toNatClampNeg)) (σ.a 61 ((x3 : Int32).toNatClampNeg)))) (fun p13 => (kv9_st rfl (hK p13 x1 x2 (x3 + 1))))) (kv9_st rfl (hK (RS.setA σ 62 ((x3 : Int32).toNatClampNeg) (σ.a 57 ((((σ.i 56) - 1) : Int32).toNatClampNeg))) x1 x2 (x3 + 1)))) kv9_none))) (kv9_st rfl (hK σ x1 x2 (x3 + 1)))) kv9_none))
theorem kr9_f_X12_resolve_2 (N : Nat) : ∀ (n : Nat) (σ : RS) (y0 : Int32) (y1 : Int32) (y2 : Int32), KV9 σ (f_X12_resolve_2 N n σ y0 y1 y2)
  | 0, _, _, _, _ => kv9_none
  | n+1, σ, y0, y1, y2 => kr9_b_X12_resolve_2 N (f_X12_resolve_2 N n) (fun σ y0 y1 y2 => kr9_f_X12_resolve_2 N n σ y0 y1 y2) σ y0 y1 y2
theorem kr9_f_X12_resolve (N : Nat) (σ : RS) (x1 : Int32) (x2 : Int32) : KV9 σ (f_X12_resolve N σ x1 x2) := by
  unfold f_X12_resolve
  exact (kv9_st rfl (kr9_f_X12_resolve_2 N N σ x1 x2 0))
theorem kr9_f_X12_push (N : Nat) (σ : RS) (x1 : Int32) : KV9 σ (f_X12_push N σ x1) := by
  unfold f_X12_push
  exact (kv9_ite (kv9_some rfl) kv9_none)
theorem kr9_f_X12_then (N : Nat) (σ : RS) (x1 : Int32) (x2 : Int32) : KV9 σ (f_X12_then N σ x1 x2) := by
  unfold f_X12_then
  exact (kv9_ite (kv9_bindv (kv9_st rfl (kr9_f_X12_push N (RS.setA σ 65 (((σ.i 63) : Int32).toNatClampNeg) x1) x2)) (fun p2 => (kv9_some rfl))) kv9_none)
theorem kr9_f_X12_body_32 (N : Nat) (σ : RS) (x1 : Int32) : KV9 σ (f_X12_body_32 N σ x1) := by
  unfold f_X12_body_32
  exact (kv9_bindv (kv9_st rfl (kr9_f_X12_then N σ x1 2)) (fun p5 => (kv9_some rfl)))
theorem kr9_f_X12_body (N : Nat) (σ : RS) (x1 : Int32) : KV9 σ (f_X12_body N σ x1) := by
  unfold f_X12_body
  exact (kv9_ite (kv9_bind (kr9_st rfl (kr9_f_X12_can N σ 0)) (fun p2 => (kv9_ite (kv9_some rfl) (kv9_st rfl (kr9_f_X12_body_32 N p2.2 x1))))) (kv9_ite (kv9_bind (kr9_st rfl (kr9_f_X12_can N σ 0)) (fun p8 => (kv9_ite (kv9_some rfl) (kv9_st rfl (kr9_f_X12_body_32 N p8.2 x1))))) (kv9_bind (kr9_st rfl (kr9_f_X12_can N σ 1)) (fun p11 => (kv9_ite (kv9_some rfl) (kv9_st rfl (kr9_f_X12_body_32 N p11.2 x1)))))))
theorem kr9_f_X12_over (N : Nat) (σ : RS) (x1 : Int32) : KV9 σ (f_X12_over N σ x1) := by
  unfold f_X12_over
  exact (kv9_ite (kv9_some rfl) kv9_none)
theorem kr9_f_X12_list_73 (N : Nat) (σ : RS) (x1 : Int32) : KV9 σ (f_X12_list_73 N σ x1) := by
  unfold f_X12_list_73
  exact (kv9_ite (kv9_ite (kv9_bindv (kv9_st rfl (kr9_f_X12_over N σ 1)) (fun p9 => (kv9_some rfl))) (kv9_bindv (kv9_st rfl (kr9_f_X12_over N σ 0)) (fun p7 => (kv9_some rfl)))) kv9_none)
theorem kr9_f_X12_list_110 (N : Nat) (σ : RS) : KV9 σ (f_X12_list_110 N σ) := by
  unfold f_X12_list_110
  exact (kv9_bindv (kv9_st rfl (kr9_f_X12_then N σ 1 2)) (fun p16 => (kv9_some rfl)))
theorem kr9_f_X12_list_37 (N : Nat) (σ : RS) (x1 : Int32) : KV9 σ (f_X12_list_37 N σ x1) := by
  unfold f_X12_list_37
  exact (kv9_ite (kv9_st rfl (kr9_f_X12_list_73 N σ x1)) (kv9_ite (kv9_st rfl (kr9_f_X12_list_73 N σ x1)) (kv9_ite (kv9_st rfl (kr9_f_X12_list_73 N σ x1)) (kv9_ite (kv9_st rfl (kr9_f_X12_list_73 N σ x1)) (kv9_ite (kv9_ite (kv9_bindv (kv9_st rfl (kr9_f_X12_note N σ (σ.i 11))) (fun p18 => (kv9_st rfl (kr9_f_X12_list_110 N p18)))) (kv9_st rfl (kr9_f_X12_list_110 N σ))) kv9_none)))))
theorem kr9_f_X12_list (N : Nat) (σ : RS) (x1 : Int32) : KV9 σ (f_X12_list N σ x1) := by
  unfold f_X12_list
  exact (kv9_ite (kv9_ite (kv9_st rfl (kr9_f_X12_list_37 N (RS.setA σ 66 ((x1 : Int32).toNatClampNeg) 1) x1)) (kv9_ite (kv9_st rfl (kr9_f_X12_list_37 N (RS.setA σ 66 ((x1 : Int32).toNatClampNeg) 0) x1)) (kv9_st rfl (kr9_f_X12_list_37 N (RS.setA σ 66 ((x1 : Int32).toNatClampNeg) 1) x1)))) kv9_none)
theorem kr9_f_X12_jump_317 (N : Nat) (σ : RS) : KV9 σ (f_X12_jump_317 N σ) := by
  unfold f_X12_jump_317
  exact (kv9_bind (kr9_st rfl (kr9_f_X12_need N σ 59)) (fun p18 => (kv9_some rfl)))
theorem kr9_f_X12_jump_302 (N : Nat) (σ : RS) (x1 : Int32) (x3 : Int32) (x4 : Int32) : KV9 σ (f_X12_jump_302 N σ x1 x3 x4) := by
  unfold f_X12_jump_302
  exact (kv9_bindv (kv9_st rfl (kr9_f_X12_pend N σ x4 x1)) (fun p15 => (kv9_ite (kv9_st rfl (kr9_f_X12_jump_317 N p15)) (kv9_bindv (kv9_st rfl (kr9_f_X12_next N p15)) (fun p20 => (kv9_st rfl (kr9_f_X12_jump_317 N p20)))))))
theorem kr9_f_X12_jump_263 (N : Nat) (σ : RS) (x1 : Int32) (x3 : Int32) (x4 : Int32) (x5 : Int32) : KV9 σ (f_X12_jump_263 N σ x1 x3 x4 x5) := by
  unfold f_X12_jump_263
  exact (kv9_ite (kv9_ite (kv9_ite (kv9_st rfl (kr9_f_X12_jump_302 N (RS.setA (RS.setA σ 23 ((x5 : Int32).toNatClampNeg) (σ.a 47 ((x4 : Int32).toNatClampNeg))) 49 ((x4 : Int32).toNatClampNeg) x5) x1 x3 x4)) (kv9_st rfl (kr9_f_X12_jump_302 N (RS.setA (RS.setA σ 23 ((x5 : Int32).toNatClampNeg) (σ.a 47 ((x4 : Int32).toNatClampNeg))) 48 ((x4 : Int32).toNatClampNeg) x5) x1 x3 x4))) kv9_none) kv9_none)
theorem kr9_f_X12_jump_234 (N : Nat) (σ : RS) (x1 : Int32) (x3 : Int32) (x4 : Int32) : KV9 σ (f_X12_jump_234 N σ x1 x3 x4) := by
  unfold f_X12_jump_234
  exact (kv9_ite (kv9_ite (kv9_bind (kr9_st rfl (kr9_f_X12_emit N σ 36 (σ.a 49 ((x4 : Int32).toNatClampNeg)))) (fun p10 => (kv9_st rfl (kr9_f_X12_jump_263 N p10.2 x1 x3 x4 p10.1)))) kv9_none) (kv9_ite (kv9_bind (kr9_st rfl (kr9_f_X12_emit N σ 36 (σ.a 48 ((x4 : Int32).toNatClampNeg)))) (fun p23 => (kv9_st rfl (kr9_f_X12_jump_263 N p23.2 x1 x3 x4 p23.1)))) kv9_none))
theorem kr9_f_X12_jump_171 (N : Nat) (σ : RS) (x1 : Int32) (x2 : Int32) (x3 : Int32) (x4 : Int32) : KV9 σ (f_X12_jump_171 N σ x1 x2 x3 x4) := by
  unfold f_X12_jump_171
  exact (kv9_ite (kv9_ite (kv9_st rfl (kr9_f_X12_jump_234 N σ x1 x3 x4)) (kv9_ite (kv9_ite (kv9_ite (kv9_st rfl (kr9_f_X12_jump_234 N σ x1 x3 (σ.a 46 ((x4 : Int32).toNatClampNeg)))) (kv9_bindv (kv9_st rfl (kr9_f_X12_fail N σ 5 (σ.i 11))) (fun p28 => (kv9_some rfl)))) kv9_none) (kv9_st rfl (kr9_f_X12_jump_234 N σ x1 x3 x4)))) (kv9_ite (kv9_bindv (kv9_st rfl (kr9_f_X12_fail N σ 5 x2)) (fun p32 => (kv9_some rfl))) (kv9_bindv (kv9_st rfl (kr9_f_X12_fail N σ 3 (σ.i 11))) (fun p35 => (kv9_some rfl)))))
theorem kr9_b_X12_jump_60 (N : Nat) (K : RS → Int32 → Int32 → Int32 → Int32 → Int32 → Option (RS)) (hK : ∀ (σ : RS) (y0 : Int32) (y1 : Int32) (y2 : Int32) (y3 : Int32) (y4 : Int32), KV9 σ (K σ y0 y1 y2 y3 y4)) (σ : RS) (x1 : Int32) (x2 : Int32) (x3 : Int32) (x4 : Int32) (x5 : Int32) : KV9 σ (b_X12_jump_60 N K σ x1 x2 x3 x4 x5) := by
  unfold b_X12_jump_60
  exact (kv9_ite (kv9_st rfl (kr9_f_X12_jump_171 N σ x1 x2 x3 x4)) (kv9_ite (kv9_ite (kv9_st rfl (kr9_f_X12_jump_171 N σ x1 x2 x3 x4)) (kv9_ite (kv9_st rfl (kr9_f_X12_jump_171 N σ x1 x2 x3 x4)) (kv9_ite (kv9_ite (kv9_st rfl (hK σ x1 x2 x3 x5 (x5 + (-1)))) (kv9_ite (kv9_st rfl (hK σ x1 x2 x3 x4 (x5 + (-1)))) (kv9_ite (kv9_st rfl (hK σ x1 x2 x3 x5 (x5 + (-1)))) (kv9_st rfl (hK σ x1 x2 x3 x4 (x5 + (-1))))))) (kv9_ite (kv9_ite (kv9_st rfl (hK σ x1 x2 x3 x5 (x5 + (-1)))) (kv9_st rfl (hK σ x1 x2 x3 x4 (x5 + (-1))))) (kv9_st rfl (hK σ x1 x2 x3 x4 (x5 + (-1)))))))) kv9_none))
theorem kr9_f_X12_jump_60 (N : Nat) : ∀ (n : Nat) (σ : RS) (y0 : Int32) (y1 : Int32) (y2 : Int32) (y3 : Int32) (y4 : Int32), KV9 σ (f_X12_jump_60 N n σ y0 y1 y2 y3 y4)
  | 0, _, _, _, _, _, _ => kv9_none
  | n+1, σ, y0, y1, y2, y3, y4 => kr9_b_X12_jump_60 N (f_X12_jump_60 N n) (fun σ y0 y1 y2 y3 y4 => kr9_f_X12_jump_60 N n σ y0 y1 y2 y3 y4) σ y0 y1 y2 y3 y4
theorem kr9_f_X12_jump_49 (N : Nat) (σ : RS) (x1 : Int32) (x2 : Int32) (x3 : Int32) : KV9 σ (f_X12_jump_49 N σ x1 x2 x3) := by
  unfold f_X12_jump_49
  exact (kv9_st rfl (kr9_f_X12_jump_60 N N σ x1 x2 x3 (-1) ((σ.i 43) - 1)))
theorem kr9_f_X12_jump_16 (N : Nat) (σ : RS) (x1 : Int32) : KV9 σ (f_X12_jump_16 N σ x1) := by
  unfold f_X12_jump_16
  exact (kv9_bindv (kv9_st rfl (kr9_f_X12_next N (RS.setI σ 55 ((σ.i 55) + 1)))) (fun p2 => (kv9_ite (kv9_st rfl (kr9_f_X12_jump_49 N p2 x1 (σ.i 11) 1)) (kv9_st rfl (kr9_f_X12_jump_49 N p2 x1 (σ.i 11) 0)))))
theorem kr9_f_X12_jump (N : Nat) (σ : RS) : KV9 σ (f_X12_jump N σ) := by
  unfold f_X12_jump
  exact (kv9_ite (kv9_st rfl (kr9_f_X12_jump_16 N σ 1)) (kv9_st rfl (kr9_f_X12_jump_16 N σ 0)))
theorem kr9_f_X12_stat_309 (N : Nat) (σ : RS) : KV9 σ (f_X12_stat_309 N σ) := by
  unfold f_X12_stat_309
  exact (kv9_bind (kr9_st rfl (kr9_f_X12_emit N σ 1 0)) (fun p10 => (kv9_ite (kv9_bindv (kv9_st rfl (kr9_f_X12_next N p10.2)) (fun p17 => (kv9_bindv (kv9_st rfl (kr9_f_X12_over N p17 1)) (fun p19 => (kv9_some rfl))))) (kv9_bindv (kv9_st rfl (kr9_f_X12_jump N p10.2)) (fun p13 => (kv9_bindv (kv9_st rfl (kr9_f_X12_over N p13 0)) (fun p15 => (kv9_some rfl))))))))
theorem kr9_f_X12_stat_240 (N : Nat) (σ : RS) (x1 : Int32) : KV9 σ (f_X12_stat_240 N σ x1) := by
  unfold f_X12_stat_240
  exact (kv9_ite (kv9_ite (kv9_ite (kv9_bind (kr9_st rfl (kr9_f_X12_can N σ 1)) (fun p7 => (kv9_ite (kv9_some rfl) (kv9_st rfl (kr9_f_X12_stat_309 N p7.2))))) (kv9_ite (kv9_bind (kr9_st rfl (kr9_f_X12_can N σ 1)) (fun p22 => (kv9_ite (kv9_some rfl) (kv9_st rfl (kr9_f_X12_stat_309 N p22.2))))) (kv9_ite (kv9_bind (kr9_st rfl (kr9_f_X12_can N σ 1)) (fun p29 => (kv9_ite (kv9_some rfl) (kv9_st rfl (kr9_f_X12_stat_309 N p29.2))))) (kv9_bind (kr9_st rfl (kr9_f_X12_can N σ 0)) (fun p26 => (kv9_ite (kv9_some rfl) (kv9_st rfl (kr9_f_X12_stat_309 N p26.2)))))))) (kv9_ite (kv9_some rfl) (kv9_bind (kr9_st rfl (kr9_f_X12_emit N σ 1 0)) (fun p33 => (kv9_some rfl))))) kv9_none)
theorem kr9_f_X12_stat (N : Nat) (σ : RS) (x1 : Int32) : KV9 σ (f_X12_stat N σ x1) := by
  unfold f_X12_stat
  exact (kv9_ite (kv9_ite (kv9_some rfl) kv9_none) (kv9_ite (kv9_ite (kv9_st rfl (kr9_f_X12_stat_240 N (RS.setA (RS.setI σ 53 ((σ.i 53) + 1)) 64 ((x1 : Int32).toNatClampNeg) 4) x1)) kv9_none) (kv9_ite (kv9_ite (kv9_st rfl (kr9_f_X12_stat_240 N (RS.setA (RS.setI σ 53 ((σ.i 53) + 1)) 64 ((x1 : Int32).toNatClampNeg) 4) x1)) kv9_none) (kv9_ite (kv9_ite (kv9_st rfl (kr9_f_X12_stat_240 N (RS.setA (RS.setI σ 53 ((σ.i 53) + 1)) 64 ((x1 : Int32).toNatClampNeg) 5) x1)) kv9_none) (kv9_ite (kv9_ite (kv9_st rfl (kr9_f_X12_stat_240 N (RS.setA (RS.setI σ 53 ((σ.i 53) + 1)) 64 ((x1 : Int32).toNatClampNeg) 6) x1)) kv9_none) (kv9_ite (kv9_ite (kv9_st rfl (kr9_f_X12_stat_240 N (RS.setA (RS.setI σ 53 ((σ.i 53) + 1)) 64 ((x1 : Int32).toNatClampNeg) 6) x1)) kv9_none) (kv9_ite (kv9_ite (kv9_st rfl (kr9_f_X12_stat_240 N (RS.setA (RS.setI σ 53 ((σ.i 53) + 1)) 64 ((x1 : Int32).toNatClampNeg) 6) x1)) kv9_none) (kv9_ite (kv9_ite (kv9_st rfl (kr9_f_X12_stat_240 N (RS.setA (RS.setI σ 53 ((σ.i 53) + 1)) 64 ((x1 : Int32).toNatClampNeg) 7) x1)) kv9_none) (kv9_ite (kv9_ite (kv9_st rfl (kr9_f_X12_stat_240 N (RS.setA (RS.setI σ 53 ((σ.i 53) + 1)) 64 ((x1 : Int32).toNatClampNeg) 8) x1)) kv9_none) (kv9_ite (kv9_ite (kv9_st rfl (kr9_f_X12_stat_240 N (RS.setA (RS.setI σ 53 ((σ.i 53) + 1)) 64 ((x1 : Int32).toNatClampNeg) 9) x1)) kv9_none) (kv9_ite (kv9_ite (kv9_st rfl (kr9_f_X12_stat_240 N (RS.setA (RS.setI σ 53 ((σ.i 53) + 1)) 64 ((x1 : Int32).toNatClampNeg) 10) x1)) kv9_none) (kv9_ite (kv9_ite (kv9_st rfl (kr9_f_X12_stat_240 N (RS.setA (RS.setI σ 53 ((σ.i 53) + 1)) 64 ((x1 : Int32).toNatClampNeg) 11) x1)) kv9_none) (kv9_ite (kv9_ite (kv9_st rfl (kr9_f_X12_stat_240 N (RS.setA (RS.setI σ 53 ((σ.i 53) + 1)) 64 ((x1 : Int32).toNatClampNeg) 12) x1)) kv9_none) (kv9_ite (kv9_ite (kv9_st rfl (kr9_f_X12_stat_240 N (RS.setA (RS.setI σ 53 ((σ.i 53) + 1)) 64 ((x1 : Int32).toNatClampNeg) 13) x1)) kv9_none) (kv9_ite (kv9_ite (kv9_st rfl (kr9_f_X12_stat_240 N (RS.setA (RS.setI σ 53 ((σ.i 53) + 1)) 64 ((x1 : Int32).toNatClampNeg) 14) x1)) kv9_none) (kv9_ite (kv9_ite (kv9_st rfl (kr9_f_X12_stat_240 N (RS.setA (RS.setI σ 53 ((σ.i 53) + 1)) 64 ((x1 : Int32).toNatClampNeg) 15) x1)) kv9_none) (kv9_ite (kv9_st rfl (kr9_f_X12_stat_240 N (RS.setA (RS.setI σ 53 ((σ.i 53) + 1)) 64 ((x1 : Int32).toNatClampNeg) 2) x1)) kv9_none)))))))))))))))))
theorem kr9_f_X12_block (N : Nat) (σ : RS) (x1 : Int32) : KV9 σ (f_X12_block N σ x1) := by
  unfold f_X12_block
  exact (kv9_ite (kv9_ite (kv9_bind (kr9_st rfl (kr9_f_X12_open N σ 123)) (fun p5 => (kv9_bindv (kv9_st rfl (kr9_f_X12_then N (RS.setA p5.2 66 ((x1 : Int32).toNatClampNeg) (p5.2.i 38)) 1 1)) (fun p7 => (kv9_some rfl))))) (kv9_bind (kr9_st rfl (kr9_f_X12_shut N σ 125)) (fun p3 => (kv9_some rfl)))) kv9_none)
theorem kr9_f_X12_telling_22 (N : Nat) (σ : RS) (x1 : Int32) : KR9 σ (f_X12_telling_22 N σ x1) := by
  unfold f_X12_telling_22
  exact (kr9_bind (kr9_st rfl (kr9_f_X12_seenAs N σ σ.l)) (fun p5 => (kr9_ite (kr9_ite (kr9_bindv (kv9_st rfl (kr9_f_X12_next N (RS.setB (RS.setI p5.2 54 ((p5.2.i 54) + 1)) 74 ((x1 : Int32).toNatClampNeg) p5.2.l))) (fun p9 => (kr9_some rfl))) kr9_none) (kr9_bindv (kv9_st rfl (kr9_f_X12_fail N p5.2 4 (p5.2.i 11))) (fun p11 => (kr9_some rfl))))))
theorem kr9_f_X12_telling_20 (N : Nat) (σ : RS) : KR9 σ (f_X12_telling_20 N σ) := by
  unfold f_X12_telling_20
  exact (kr9_some rfl)
theorem kr9_f_X12_telling (N : Nat) (σ : RS) (x1 : Int32) : KR9 σ (f_X12_telling N σ x1) := by
  unfold f_X12_telling
  exact (kr9_ite (kr9_bind (kr9_st rfl (kr9_f_X12_can N σ 1)) (fun p13 => (kr9_ite (kr9_st rfl (kr9_f_X12_telling_20 N p13.2)) (kr9_st rfl (kr9_f_X12_telling_22 N p13.2 x1))))) (kr9_bind (kr9_st rfl (kr9_f_X12_can N σ 0)) (fun p2 => (kr9_ite (kr9_st rfl (kr9_f_X12_telling_20 N p2.2)) (kr9_st rfl (kr9_f_X12_telling_22 N p2.2 x1))))))
theorem kr9_f_X12_tell (N : Nat) (σ : RS) (x1 : Int32) : KV9 σ (f_X12_tell N σ x1) := by
  unfold f_X12_tell
  exact (kv9_ite (kv9_ite (kv9_bindv (kv9_st rfl (kr9_f_X12_next N σ)) (fun p11 => (kv9_ite (kv9_bind (kr9_st rfl (kr9_f_X12_telling N p11 x1)) (fun p14 => (kv9_ite (kv9_some rfl) (kv9_bind (kr9_st rfl (kr9_f_X12_need N p14.2 61)) (fun p17 => (kv9_bindv (kv9_st rfl (kr9_f_X12_then N p17.2 1 16)) (fun p19 => (kv9_some rfl)))))))) (kv9_some rfl)))) (kv9_bind (kr9_st rfl (kr9_f_X12_see N σ (σ.b 74 ((x1 : Int32).toNatClampNeg)) 0)) (fun p3 => (kv9_bind (kr9_st rfl (kr9_f_X12_emit N p3.2 5 p3.1)) (fun p5 => (kv9_bind (kr9_st rfl (kr9_f_X12_need N p5.2 59)) (fun p7 => (kv9_bindv (kv9_st rfl (kr9_f_X12_over N p7.2 1)) (fun p9 => (kv9_some rfl)))))))))) kv9_none)
theorem kr9_f_X12_label_188 (N : Nat) (σ : RS) : KV9 σ (f_X12_label_188 N σ) := by
  unfold f_X12_label_188
  exact (kv9_bindv (kv9_st rfl (kr9_f_X12_body N σ 1)) (fun p10 => (kv9_some rfl)))
theorem kr9_f_X12_label_168 (N : Nat) (σ : RS) : KV9 σ (f_X12_label_168 N σ) := by
  unfold f_X12_label_168
  exact (kv9_st rfl (kr9_f_X12_label_188 N σ))
theorem kr9_b_X12_label_125 (N : Nat) (K : RS → Int32 → Option (RS)) (hK : ∀ (σ : RS) (y0 : Int32), KV9 σ (K σ y0)) (σ : RS) (x6 : Int32) : KV9 σ (b_X12_label_125 N K σ x6) := by
  unfold b_X12_label_125
  exact (kv9_ite (kv9_st rfl (kr9_f_X12_label_168 N σ)) (kv9_ite (kv9_ite (kv9_ite (kv9_st rfl (hK (RS.setA σ 46 ((x6 : Int32).toNatClampNeg) (-3)) (x6 + (-1)))) (kv9_st rfl (kr9_f_X12_label_168 N σ))) (kv9_st rfl (kr9_f_X12_label_168 N σ))) kv9_none))
theorem kr9_f_X12_label_125 (N : Nat) : ∀ (n : Nat) (σ : RS) (y0 : Int32), KV9 σ (f_X12_label_125 N n σ y0)
  | 0, _, _ => kv9_none
  | n+1, σ, y0 => kr9_b_X12_label_125 N (f_X12_label_125 N n) (fun σ y0 => kr9_f_X12_label_125 N n σ y0) σ y0
theorem kr9_f_X12_label_110 (N : Nat) (σ : RS) (x5 : Int32) : KV9 σ (f_X12_label_110 N σ x5) := by
  unfold f_X12_label_110
  exact (kv9_ite (kv9_st rfl (kr9_f_X12_label_125 N N (RS.setA σ 46 ((x5 : Int32).toNatClampNeg) (-3)) (x5 - 1))) kv9_none)
theorem kr9_f_X12_label_60 (N : Nat) (σ : RS) (x1 : Int32) (x2 : Int64) : KV9 σ (f_X12_label_60 N σ x1 x2) := by
  unfold f_X12_label_60
  exact (kv9_bind (kr9_st rfl (kr9_f_X12_goal N σ 2 x2)) (fun p2 => (kv9_ite (kv9_bindv (kv9_st rfl (kr9_f_X12_next N (RS.setA p2.2 66 ((x1 : Int32).toNatClampNeg) p2.1))) (fun p5 => (kv9_ite (kv9_st rfl (kr9_f_X12_label_110 N p5 p2.1)) (kv9_ite (kv9_st rfl (kr9_f_X12_label_110 N p5 p2.1)) (kv9_ite (kv9_st rfl (kr9_f_X12_label_110 N p5 p2.1)) (kv9_ite (kv9_ite (kv9_st rfl (kr9_f_X12_label_188 N (RS.setA p5 46 ((p2.1 : Int32).toNatClampNeg) (-2)))) kv9_none) (kv9_st rfl (kr9_f_X12_label_188 N p5)))))))) kv9_none)))
theorem kr9_b_X12_label_8 (N : Nat) (K : RS → Int32 → Int64 → Int32 → Int32 → Option (RS)) (hK : ∀ (σ : RS) (y0 : Int32) (y1 : Int64) (y2 : Int32) (y3 : Int32), KV9 σ (K σ y0 y1 y2 y3)) (σ : RS) (x1 : Int32) (x2 : Int64) (x4 : Int32) (x5 : Int32) : KV9 σ (b_X12_label_8 N K σ x1 x2 x4 x5) := by
  unfold b_X12_label_8
  exact (kv9_ite (kv9_st rfl (kr9_f_X12_label_60 N σ x1 x2)) (kv9_ite (kv9_ite (kv9_st rfl (kr9_f_X12_label_60 N σ x1 x2)) (kv9_ite (kv9_ite (kv9_bindv (kv9_st rfl (kr9_f_X12_fail N σ 4 x4)) (fun p23 => (kv9_st rfl (hK p23 x1 x2 x4 (x5 + (-1)))))) (kv9_st rfl (hK σ x1 x2 x4 (x5 + (-1))))) (kv9_st rfl (hK σ x1 x2 x4 (x5 + (-1)))))) kv9_none))
theorem kr9_f_X12_label_8 (N : Nat) : ∀ (n : Nat) (σ : RS) (y0 : Int32) (y1 : Int64) (y2 : Int32) (y3 : Int32), KV9 σ (f_X12_label_8 N n σ y0 y1 y2 y3)
  | 0, _, _, _, _, _ => kv9_none
  | n+1, σ, y0, y1, y2, y3 => kr9_b_X12_label_8 N (f_X12_label_8 N n) (fun σ y0 y1 y2 y3 => kr9_f_X12_label_8 N n σ y0 y1 y2 y3) σ y0 y1 y2 y3
theorem kr9_f_X12_label (N : Nat) (σ : RS) (x1 : Int32) (x2 : Int64) (x4 : Int32) : KV9 σ (f_X12_label N σ x1 x2 x4) := by
  unfold f_X12_label
  exact (kv9_st rfl (kr9_f_X12_label_8 N N σ x1 x2 x4 ((σ.i 43) - 1)))
theorem kr9_f_X12_got_22 (N : Nat) (σ : RS) (x3 : Int32) : KR9 σ (f_X12_got_22 N σ x3) := by
  unfold f_X12_got_22
  exact (kr9_bindv (kv9_st rfl (kr9_f_X12_fail N σ 3 x3)) (fun p4 => (kr9_some rfl)))
theorem kr9_f_X12_got (N : Nat) (σ : RS) (x1 : Int64) (x3 : Int32) : KR9 σ (f_X12_got N σ x1 x3) := by
  unfold f_X12_got
  exact (kr9_bind (kr9_st rfl (kr9_f_X12_seenAs N σ x1)) (fun p1 => (kr9_ite (kr9_st rfl (kr9_f_X12_got_22 N p1.2 x3)) (kr9_ite (kr9_ite (kr9_some rfl) (kr9_st rfl (kr9_f_X12_got_22 N p1.2 x3))) kr9_none))))
theorem kr9_f_X12_named_207 (N : Nat) (σ : RS) (x1 : Int32) (x5 : Int32) (x6 : Int32) : KV9 σ (f_X12_named_207 N σ x1 x5 x6) := by
  unfold f_X12_named_207
  exact (kv9_bindv (kv9_st rfl (kr9_f_X12_next N σ)) (fun p17 => (kv9_ite (kv9_ite (kv9_bindv (kv9_st rfl (kr9_f_X12_then N (RS.setA p17 66 ((x1 : Int32).toNatClampNeg) x5) 2 16)) (fun p21 => (kv9_some rfl))) kv9_none) (kv9_bind (kr9_st rfl (kr9_f_X12_emit N p17 6 x5)) (fun p23 => (kv9_bind (kr9_st rfl (kr9_f_X12_need N p23.2 59)) (fun p25 => (kv9_bindv (kv9_st rfl (kr9_f_X12_over N p25.2 1)) (fun p27 => (kv9_some rfl))))))))))
theorem kr9_f_X12_named_183 (N : Nat) (σ : RS) (x1 : Int32) (x5 : Int32) : KV9 σ (f_X12_named_183 N σ x1 x5) := by
  unfold f_X12_named_183
  exact (kv9_bind (kr9_st rfl (kr9_f_X12_emit N σ 1 0)) (fun p14 => (kv9_ite (kv9_st rfl (kr9_f_X12_named_207 N p14.2 x1 x5 1)) (kv9_st rfl (kr9_f_X12_named_207 N p14.2 x1 x5 0)))))
theorem kr9_f_X12_named (N : Nat) (σ : RS) (x1 : Int32) : KV9 σ (f_X12_named N σ x1) := by
  unfold f_X12_named
  exact (kv9_ite (kv9_ite (kv9_ite (kv9_bindv (kv9_st rfl (kr9_f_X12_patch N σ (σ.a 48 (((σ.a 66 ((x1 : Int32).toNatClampNeg)) : Int32).toNatClampNeg)) (σ.i 20))) (fun p45 => (kv9_ite (kv9_ite (kv9_bindv (kv9_st rfl (kr9_f_X12_over N (RS.setI p45 43 ((p45.i 43) - 1)) 0)) (fun p51 => (kv9_some rfl))) (kv9_bindv (kv9_st rfl (kr9_f_X12_over N (RS.setI p45 43 ((p45.i 43) - 1)) 1)) (fun p53 => (kv9_some rfl)))) (kv9_bindv (kv9_st rfl (kr9_f_X12_over N (RS.setI p45 43 ((p45.i 43) - 1)) 1)) (fun p48 => (kv9_some rfl)))))) kv9_none) (kv9_ite (kv9_bind (kr9_st rfl (kr9_f_X12_emit N σ 5 (σ.a 66 ((x1 : Int32).toNatClampNeg)))) (fun p38 => (kv9_bind (kr9_st rfl (kr9_f_X12_need N p38.2 59)) (fun p40 => (kv9_bindv (kv9_st rfl (kr9_f_X12_over N p40.2 1)) (fun p42 => (kv9_some rfl))))))) (kv9_bindv (kv9_st rfl (kr9_f_X12_next N σ)) (fun p4 => (kv9_ite (kv9_bindv (kv9_st rfl (kr9_f_X12_label N p4 x1 σ.l (σ.i 11))) (fun p36 => (kv9_some rfl))) (kv9_bind (kr9_st rfl (kr9_f_X12_got N p4 σ.l (σ.i 11))) (fun p7 => (kv9_ite (kv9_ite (kv9_bind (kr9_st rfl (kr9_f_X12_can N p7.2 1)) (fun p11 => (kv9_ite (kv9_some rfl) (kv9_st rfl (kr9_f_X12_named_183 N p11.2 x1 p7.1))))) (kv9_ite (kv9_bind (kr9_st rfl (kr9_f_X12_can N p7.2 1)) (fun p33 => (kv9_ite (kv9_some rfl) (kv9_st rfl (kr9_f_X12_named_183 N p33.2 x1 p7.1))))) (kv9_bind (kr9_st rfl (kr9_f_X12_can N p7.2 0)) (fun p30 => (kv9_ite (kv9_some rfl) (kv9_st rfl (kr9_f_X12_named_183 N p30.2 x1 p7.1))))))) (kv9_some rfl))))))))) kv9_none)
theorem kr9_b_X12_isInArms_2 (N : Nat) (K : RS → Int32 → Option (Int32 × RS)) (hK : ∀ (σ : RS) (y0 : Int32), KR9 σ (K σ y0)) (σ : RS) (x1 : Int32) : KR9 σ (b_X12_isInArms_2 N K σ x1) := by
  unfold b_X12_isInArms_2
  exact (kr9_ite (kr9_some rfl) (kr9_ite (kr9_ite (kr9_some rfl) (kr9_st rfl (hK σ (x1 + 1)))) kr9_none))
theorem kr9_f_X12_isInArms_2 (N : Nat) : ∀ (n : Nat) (σ : RS) (y0 : Int32), KR9 σ (f_X12_isInArms_2 N n σ y0)
  | 0, _, _ => kr9_none
  | n+1, σ, y0 => kr9_b_X12_isInArms_2 N (f_X12_isInArms_2 N n) (fun σ y0 => kr9_f_X12_isInArms_2 N n σ y0) σ y0
theorem kr9_f_X12_isInArms (N : Nat) (σ : RS) : KR9 σ (f_X12_isInArms N σ) := by
  unfold f_X12_isInArms
  exact (kr9_st rfl (kr9_f_X12_isInArms_2 N N σ 0))
theorem kr9_b_X12_ending_119 (N : Nat) (K : RS → Int32 → Int32 → Int32 → Option (RS)) (hK : ∀ (σ : RS) (y0 : Int32) (y1 : Int32) (y2 : Int32), KV9 σ (K σ y0 y1 y2)) (σ : RS) (x1 : Int32) (x2 : Int32) (x3 : Int32) : KV9 σ (b_X12_ending_119 N K σ x1 x2 x3) := by
  unfold b_X12_ending_119
  exact (kv9_ite (kv9_bind (kr9_st rfl (kr9_f_X12_need N σ 59)) (fun p8 => (kv9_ite (kv9_ite (kv9_bindv (kv9_st rfl (kr9_f_X12_over N p8.2 1)) (fun p14 => (kv9_some rfl))) (kv9_bindv (kv9_st rfl (kr9_f_X12_over N p8.2 0)) (fun p12 => (kv9_some rfl)))) kv9_none))) (kv9_ite (kv9_ite (kv9_ite (kv9_st rfl (hK (RS.setA σ 23 ((x2 : Int32).toNatClampNeg) (σ.a 47 ((x3 : Int32).toNatClampNeg))) x1 x2 (x3 + 1))) kv9_none) (kv9_ite (kv9_st rfl (hK (RS.setA σ 23 ((x2 : Int32).toNatClampNeg) (σ.a 23 ((x2 : Int32).toNatClampNeg))) x1 x2 (x3 + 1))) kv9_none)) kv9_none))
theorem kr9_f_X12_ending_119 (N : Nat) : ∀ (n : Nat) (σ : RS) (y0 : Int32) (y1 : Int32) (y2 : Int32), KV9 σ (f_X12_ending_119 N n σ y0 y1 y2)
  | 0, _, _, _, _ => kv9_none
  | n+1, σ, y0, y1, y2 => kr9_b_X12_ending_119 N (f_X12_ending_119 N n) (fun σ y0 y1 y2 => kr9_f_X12_ending_119 N n σ y0 y1 y2) σ y0 y1 y2
theorem kr9_f_X12_ending_117 (N : Nat) (σ : RS) (x1 : Int32) (x2 : Int32) : KV9 σ (f_X12_ending_117 N σ x1 x2) := by
  unfold f_X12_ending_117
  exact (kv9_st rfl (kr9_f_X12_ending_119 N N σ x1 x2 0))
theorem kr9_f_X12_ending_63 (N : Nat) (σ : RS) : KV9 σ (f_X12_ending_63 N σ) := by
  unfold f_X12_ending_63
  exact (kv9_bindv (kv9_st rfl (kr9_f_X12_next N σ)) (fun p26 => (kv9_bindv (kv9_st rfl (kr9_f_X12_then N p26 1 16)) (fun p28 => (kv9_some rfl)))))
theorem kr9_f_X12_ending_53 (N : Nat) (σ : RS) : KV9 σ (f_X12_ending_53 N σ) := by
  unfold f_X12_ending_53
  exact (kv9_bindv (kv9_st rfl (kr9_f_X12_fail N σ 5 (σ.i 11))) (fun p33 => (kv9_some rfl)))
theorem kr9_f_X12_ending_36 (N : Nat) (σ : RS) : KV9 σ (f_X12_ending_36 N σ) := by
  unfold f_X12_ending_36
  exact (kv9_ite (kv9_bind (kr9_st rfl (kr9_f_X12_isInArms N σ)) (fun p30 => (kv9_ite (kv9_st rfl (kr9_f_X12_ending_53 N p30.2)) (kv9_st rfl (kr9_f_X12_ending_63 N p30.2))))) (kv9_st rfl (kr9_f_X12_ending_63 N σ)))
theorem kr9_f_X12_ending (N : Nat) (σ : RS) (x1 : Int32) : KV9 σ (f_X12_ending N σ x1) := by
  unfold f_X12_ending
  exact (kv9_ite (kv9_ite (kv9_ite (kv9_bind (kr9_st rfl (kr9_f_X12_isInArms N (RS.setA σ 66 ((x1 : Int32).toNatClampNeg) (σ.i 10)))) (fun p35 => (kv9_ite (kv9_st rfl (kr9_f_X12_ending_36 N p35.2)) (kv9_st rfl (kr9_f_X12_ending_53 N p35.2))))) (kv9_st rfl (kr9_f_X12_ending_36 N (RS.setA σ 66 ((x1 : Int32).toNatClampNeg) (σ.i 10))))) (kv9_ite (kv9_bind (kr9_st rfl (kr9_f_X12_emit N σ 16 0)) (fun p22 => (kv9_st rfl (kr9_f_X12_ending_117 N p22.2 x1 p22.1)))) (kv9_ite (kv9_bind (kr9_st rfl (kr9_f_X12_emit N σ 17 0)) (fun p20 => (kv9_st rfl (kr9_f_X12_ending_117 N p20.2 x1 p20.1)))) (kv9_bind (kr9_st rfl (kr9_f_X12_emit N σ 18 0)) (fun p5 => (kv9_st rfl (kr9_f_X12_ending_117 N p5.2 x1 p5.1))))))) kv9_none)
theorem kr9_f_X12_throwing_142 (N : Nat) (σ : RS) : KV9 σ (f_X12_throwing_142 N σ) := by
  unfold f_X12_throwing_142
  exact (kv9_bindv (kv9_st rfl (kr9_f_X12_fail N σ 3 (σ.i 11))) (fun p13 => (kv9_some rfl)))
theorem kr9_f_X12_throwing_69 (N : Nat) (σ : RS) (x1 : Int32) : KV9 σ (f_X12_throwing_69 N σ x1) := by
  unfold f_X12_throwing_69
  exact (kv9_ite (kv9_ite (kv9_ite (kv9_bindv (kv9_st rfl (kr9_f_X12_next N (RS.setA σ 66 ((x1 : Int32).toNatClampNeg) (σ.i 14)))) (fun p27 => (kv9_bindv (kv9_st rfl (kr9_f_X12_then N p27 1 16)) (fun p29 => (kv9_some rfl))))) kv9_none) (kv9_bindv (kv9_st rfl (kr9_f_X12_fail N σ 3 (σ.i 11))) (fun p31 => (kv9_some rfl)))) (kv9_bind (kr9_st rfl (kr9_f_X12_seenAs N σ σ.l)) (fun p10 => (kv9_ite (kv9_st rfl (kr9_f_X12_throwing_142 N p10.2)) (kv9_ite (kv9_ite (kv9_st rfl (kr9_f_X12_throwing_142 N p10.2)) (kv9_bind (kr9_st rfl (kr9_f_X12_emit N p10.2 21 (p10.2.a 40 ((p10.1 : Int32).toNatClampNeg)))) (fun p17 => (kv9_bindv (kv9_st rfl (kr9_f_X12_next N p17.2)) (fun p19 => (kv9_bind (kr9_st rfl (kr9_f_X12_need N p19 59)) (fun p21 => (kv9_bindv (kv9_st rfl (kr9_f_X12_over N p21.2 0)) (fun p23 => (kv9_some rfl)))))))))) kv9_none)))))
theorem kr9_f_X12_throwing (N : Nat) (σ : RS) (x1 : Int32) : KV9 σ (f_X12_throwing N σ x1) := by
  unfold f_X12_throwing
  exact (kv9_ite (kv9_ite (kv9_bind (kr9_st rfl (kr9_f_X12_emit N σ 19 (σ.a 66 ((x1 : Int32).toNatClampNeg)))) (fun p40 => (kv9_bind (kr9_st rfl (kr9_f_X12_need N p40.2 59)) (fun p42 => (kv9_bindv (kv9_st rfl (kr9_f_X12_over N p42.2 0)) (fun p44 => (kv9_some rfl))))))) (kv9_bindv (kv9_st rfl (kr9_f_X12_next N σ)) (fun p3 => (kv9_ite (kv9_bind (kr9_st rfl (kr9_f_X12_can N p3 1)) (fun p6 => (kv9_ite (kv9_some rfl) (kv9_st rfl (kr9_f_X12_throwing_69 N p6.2 x1))))) (kv9_ite (kv9_bind (kr9_st rfl (kr9_f_X12_can N p3 1)) (fun p37 => (kv9_ite (kv9_some rfl) (kv9_st rfl (kr9_f_X12_throwing_69 N p37.2 x1))))) (kv9_bind (kr9_st rfl (kr9_f_X12_can N p3 0)) (fun p34 => (kv9_ite (kv9_some rfl) (kv9_st rfl (kr9_f_X12_throwing_69 N p34.2 x1)))))))))) kv9_none)
theorem kr9_f_X12_asserted (N : Nat) (σ : RS) (x1 : Int32) : KV9 σ (f_X12_asserted N σ x1) := by
  unfold f_X12_asserted
  exact (kv9_ite (kv9_ite (kv9_bindv (kv9_st rfl (kr9_f_X12_next N σ)) (fun p3 => (kv9_bind (kr9_st rfl (kr9_f_X12_emit N p3 22 0)) (fun p5 => (kv9_bindv (kv9_st rfl (kr9_f_X12_then N (RS.setA p5.2 66 ((x1 : Int32).toNatClampNeg) p5.1) 1 20)) (fun p7 => (kv9_some rfl))))))) (kv9_ite (kv9_bind (kr9_st rfl (kr9_f_X12_emit N σ 14 0)) (fun p10 => (kv9_ite (kv9_bindv (kv9_st rfl (kr9_f_X12_next N (RS.setA p10.2 67 ((x1 : Int32).toNatClampNeg) p10.1))) (fun p15 => (kv9_bindv (kv9_st rfl (kr9_f_X12_then N p15 2 16)) (fun p17 => (kv9_some rfl))))) (kv9_bind (kr9_st rfl (kr9_f_X12_emit N (RS.setA p10.2 67 ((x1 : Int32).toNatClampNeg) p10.1) 2 0)) (fun p13 => (kv9_some rfl)))))) (kv9_bind (kr9_st rfl (kr9_f_X12_emit N σ 19 3)) (fun p19 => (kv9_ite (kv9_ite (kv9_bind (kr9_st rfl (kr9_f_X12_need N (RS.setA (RS.setA p19.2 22 (((p19.2.a 66 ((x1 : Int32).toNatClampNeg)) : Int32).toNatClampNeg) (p19.2.i 20)) 22 (((p19.2.a 67 ((x1 : Int32).toNatClampNeg)) : Int32).toNatClampNeg) (p19.2.i 20)) 59)) (fun p23 => (kv9_bindv (kv9_st rfl (kr9_f_X12_over N p23.2 1)) (fun p25 => (kv9_some rfl))))) kv9_none) kv9_none))))) kv9_none)
theorem kr9_f_X12_branch_113 (N : Nat) (σ : RS) (x1 : Int32) : KV9 σ (f_X12_branch_113 N σ x1) := by
  unfold f_X12_branch_113
  exact (kv9_bind (kr9_st rfl (kr9_f_X12_emit N σ 15 0)) (fun p24 => (kv9_ite (kv9_ite (kv9_bindv (kv9_st rfl (kr9_f_X12_body N (RS.setA (RS.setA p24.2 68 ((x1 : Int32).toNatClampNeg) p24.1) 22 (((p24.2.a 66 ((x1 : Int32).toNatClampNeg)) : Int32).toNatClampNeg) (p24.2.i 20)) 3)) (fun p28 => (kv9_some rfl))) kv9_none) kv9_none)))
theorem kr9_f_X12_branch (N : Nat) (σ : RS) (x1 : Int32) : KV9 σ (f_X12_branch N σ x1) := by
  unfold f_X12_branch
  exact (kv9_ite (kv9_ite (kv9_bindv (kv9_st rfl (kr9_f_X12_next N σ)) (fun p3 => (kv9_bind (kr9_st rfl (kr9_f_X12_open N p3 40)) (fun p5 => (kv9_bindv (kv9_st rfl (kr9_f_X12_then N p5.2 1 20)) (fun p7 => (kv9_some rfl))))))) (kv9_ite (kv9_bind (kr9_st rfl (kr9_f_X12_shut N σ 41)) (fun p10 => (kv9_bind (kr9_st rfl (kr9_f_X12_emit N p10.2 13 0)) (fun p12 => (kv9_bindv (kv9_st rfl (kr9_f_X12_body N (RS.setA p12.2 66 ((x1 : Int32).toNatClampNeg) p12.1) 2)) (fun p14 => (kv9_some rfl))))))) (kv9_ite (kv9_ite (kv9_bindv (kv9_st rfl (kr9_f_X12_next N σ)) (fun p21 => (kv9_ite (kv9_st rfl (kr9_f_X12_branch_113 N (RS.setA p21 67 ((x1 : Int32).toNatClampNeg) 0) x1)) (kv9_st rfl (kr9_f_X12_branch_113 N (RS.setA p21 67 ((x1 : Int32).toNatClampNeg) 1) x1))))) (kv9_ite (kv9_bindv (kv9_st rfl (kr9_f_X12_over N (RS.setA σ 22 (((σ.a 66 ((x1 : Int32).toNatClampNeg)) : Int32).toNatClampNeg) (σ.i 20)) 1)) (fun p19 => (kv9_some rfl))) kv9_none)) (kv9_ite (kv9_ite (kv9_ite (kv9_bindv (kv9_st rfl (kr9_f_X12_over N (RS.setA σ 22 (((σ.a 68 ((x1 : Int32).toNatClampNeg)) : Int32).toNatClampNeg) (σ.i 20)) 1)) (fun p37 => (kv9_some rfl))) (kv9_bindv (kv9_st rfl (kr9_f_X12_over N (RS.setA σ 22 (((σ.a 68 ((x1 : Int32).toNatClampNeg)) : Int32).toNatClampNeg) (σ.i 20)) 0)) (fun p35 => (kv9_some rfl)))) (kv9_bindv (kv9_st rfl (kr9_f_X12_over N (RS.setA σ 22 (((σ.a 68 ((x1 : Int32).toNatClampNeg)) : Int32).toNatClampNeg) (σ.i 20)) 1)) (fun p32 => (kv9_some rfl)))) kv9_none)))) kv9_none)
theorem kr9_f_X12_isJustTrue_18 (N : Nat) (σ : RS) : KR9 σ (f_X12_isJustTrue_18 N σ) := by
  unfold f_X12_isJustTrue_18
  exact (kr9_some rfl)
theorem kr9_f_X12_isJustTrue (N : Nat) (σ : RS) (x1 : Int32) : KR9 σ (f_X12_isJustTrue N σ x1) := by
  unfold f_X12_isJustTrue
  exact (kr9_ite (kr9_st rfl (kr9_f_X12_isJustTrue_18 N σ)) (kr9_ite (kr9_some rfl) (kr9_st rfl (kr9_f_X12_isJustTrue_18 N σ))))
theorem kr9_f_X12_whiles_77 (N : Nat) (σ : RS) : KV9 σ (f_X12_whiles_77 N σ) := by
  unfold f_X12_whiles_77
  exact (kv9_bindv (kv9_st rfl (kr9_f_X12_then N σ 1 20)) (fun p8 => (kv9_some rfl)))
theorem kr9_f_X12_whiles_111 (N : Nat) (σ : RS) (x1 : Int32) : KV9 σ (f_X12_whiles_111 N σ x1) := by
  unfold f_X12_whiles_111
  exact (kv9_bind (kr9_st rfl (kr9_f_X12_shut N σ 41)) (fun p14 => (kv9_bind (kr9_st rfl (kr9_f_X12_emit N p14.2 13 0)) (fun p16 => (kv9_ite (kv9_bind (kr9_st rfl (kr9_f_X12_emit N (RS.setA p16.2 67 ((x1 : Int32).toNatClampNeg) p16.1) 1 0)) (fun p19 => (kv9_bind (kr9_st rfl (kr9_f_X12_loopGoal N p19.2)) (fun p21 => (kv9_bindv (kv9_st rfl (kr9_f_X12_body N (RS.setA p21.2 68 ((x1 : Int32).toNatClampNeg) p21.1) 2)) (fun p23 => (kv9_some rfl))))))) kv9_none)))))
theorem kr9_f_X12_whiles (N : Nat) (σ : RS) (x1 : Int32) : KV9 σ (f_X12_whiles N σ x1) := by
  unfold f_X12_whiles
  exact (kv9_ite (kv9_ite (kv9_bindv (kv9_st rfl (kr9_f_X12_next N σ)) (fun p3 => (kv9_bind (kr9_st rfl (kr9_f_X12_open N (RS.setA p3 66 ((x1 : Int32).toNatClampNeg) (p3.i 20)) 40)) (fun p5 => (kv9_ite (kv9_st rfl (kr9_f_X12_whiles_77 N (RS.setA p5.2 69 ((x1 : Int32).toNatClampNeg) (p5.2.i 17)))) (kv9_st rfl (kr9_f_X12_whiles_77 N (RS.setA p5.2 69 ((x1 : Int32).toNatClampNeg) 0)))))))) (kv9_ite (kv9_bind (kr9_st rfl (kr9_f_X12_isJustTrue N σ (σ.a 69 ((x1 : Int32).toNatClampNeg)))) (fun p11 => (kv9_ite (kv9_st rfl (kr9_f_X12_whiles_111 N (RS.setA p11.2 71 ((x1 : Int32).toNatClampNeg) 0) x1)) (kv9_st rfl (kr9_f_X12_whiles_111 N (RS.setA p11.2 71 ((x1 : Int32).toNatClampNeg) 1) x1))))) (kv9_ite (kv9_bindv (kv9_st rfl (kr9_f_X12_patch N σ (σ.a 49 (((σ.a 68 ((x1 : Int32).toNatClampNeg)) : Int32).toNatClampNeg)) (σ.a 66 ((x1 : Int32).toNatClampNeg)))) (fun p26 => (kv9_bind (kr9_st rfl (kr9_f_X12_emit N p26 15 (p26.a 66 ((x1 : Int32).toNatClampNeg)))) (fun p28 => (kv9_ite (kv9_bindv (kv9_st rfl (kr9_f_X12_patch N (RS.setA p28.2 22 (((p28.2.a 67 ((x1 : Int32).toNatClampNeg)) : Int32).toNatClampNeg) (p28.2.i 20)) (p28.2.a 48 (((σ.a 68 ((x1 : Int32).toNatClampNeg)) : Int32).toNatClampNeg)) (p28.2.i 20))) (fun p31 => (kv9_ite (kv9_bindv (kv9_st rfl (kr9_f_X12_over N (RS.setI p31 43 ((p31.i 43) - 1)) 1)) (fun p34 => (kv9_some rfl))) (kv9_ite (kv9_bindv (kv9_st rfl (kr9_f_X12_over N (RS.setI p31 43 ((p31.i 43) - 1)) 0)) (fun p37 => (kv9_some rfl))) (kv9_bindv (kv9_st rfl (kr9_f_X12_over N (RS.setI p31 43 ((p31.i 43) - 1)) 1)) (fun p39 => (kv9_some rfl))))))) kv9_none))))) kv9_none))) kv9_none)
theorem kr9_f_X12_repeats_195 (N : Nat) (σ : RS) : KV9 σ (f_X12_repeats_195 N σ) := by
  unfold f_X12_repeats_195
  exact (kv9_bindv (kv9_st rfl (kr9_f_X12_then N σ 2 20)) (fun p26 => (kv9_some rfl)))
theorem kr9_f_X12_repeats_134 (N : Nat) (σ : RS) (x1 : Int32) (x2 : Int32) : KV9 σ (f_X12_repeats_134 N σ x1 x2) := by
  unfold f_X12_repeats_134
  exact (kv9_ite (kv9_ite (kv9_bind (kr9_st rfl (kr9_f_X12_need N (RS.setI (RS.setA σ 70 ((x1 : Int32).toNatClampNeg) (σ.a 48 ((x2 : Int32).toNatClampNeg))) 43 ((σ.i 43) - 1)) 415)) (fun p21 => (kv9_bind (kr9_st rfl (kr9_f_X12_open N p21.2 40)) (fun p23 => (kv9_ite (kv9_st rfl (kr9_f_X12_repeats_195 N (RS.setA p23.2 69 ((x1 : Int32).toNatClampNeg) (p23.2.i 17)))) (kv9_st rfl (kr9_f_X12_repeats_195 N (RS.setA p23.2 69 ((x1 : Int32).toNatClampNeg) 0)))))))) kv9_none) kv9_none)
theorem kr9_f_X12_repeats_114 (N : Nat) (σ : RS) (x1 : Int32) (x2 : Int32) : KV9 σ (f_X12_repeats_114 N σ x1 x2) := by
  unfold f_X12_repeats_114
  exact (kv9_ite (kv9_ite (kv9_ite (kv9_st rfl (kr9_f_X12_repeats_134 N (RS.setA σ 72 ((x1 : Int32).toNatClampNeg) 0) x1 x2)) kv9_none) (kv9_ite (kv9_st rfl (kr9_f_X12_repeats_134 N (RS.setA σ 72 ((x1 : Int32).toNatClampNeg) 1) x1 x2)) kv9_none)) kv9_none)
theorem kr9_f_X12_repeats (N : Nat) (σ : RS) (x1 : Int32) : KV9 σ (f_X12_repeats N σ x1) := by
  unfold f_X12_repeats
  exact (kv9_ite (kv9_ite (kv9_bindv (kv9_st rfl (kr9_f_X12_next N σ)) (fun p3 => (kv9_bind (kr9_st rfl (kr9_f_X12_emit N p3 1 0)) (fun p5 => (kv9_bind (kr9_st rfl (kr9_f_X12_loopGoal N (RS.setA p5.2 66 ((x1 : Int32).toNatClampNeg) p5.1))) (fun p7 => (kv9_bindv (kv9_st rfl (kr9_f_X12_body N (RS.setA p7.2 68 ((x1 : Int32).toNatClampNeg) p7.1) 1)) (fun p9 => (kv9_some rfl))))))))) (kv9_ite (kv9_ite (kv9_bindv (kv9_st rfl (kr9_f_X12_patch N σ (σ.a 49 (((σ.a 68 ((x1 : Int32).toNatClampNeg)) : Int32).toNatClampNeg)) (σ.i 20))) (fun p13 => (kv9_ite (kv9_ite (kv9_st rfl (kr9_f_X12_repeats_114 N (RS.setA p13 67 ((x1 : Int32).toNatClampNeg) 0) x1 (σ.a 68 ((x1 : Int32).toNatClampNeg)))) (kv9_st rfl (kr9_f_X12_repeats_114 N (RS.setA p13 67 ((x1 : Int32).toNatClampNeg) 1) x1 (σ.a 68 ((x1 : Int32).toNatClampNeg))))) (kv9_st rfl (kr9_f_X12_repeats_114 N (RS.setA p13 67 ((x1 : Int32).toNatClampNeg) 1) x1 (σ.a 68 ((x1 : Int32).toNatClampNeg))))))) kv9_none) (kv9_bind (kr9_st rfl (kr9_f_X12_isJustTrue N σ (σ.a 69 ((x1 : Int32).toNatClampNeg)))) (fun p30 => (kv9_bind (kr9_st rfl (kr9_f_X12_shut N p30.2 41)) (fun p32 => (kv9_bind (kr9_st rfl (kr9_f_X12_need N p32.2 59)) (fun p34 => (kv9_bind (kr9_st rfl (kr9_f_X12_emit N p34.2 14 (p34.2.a 66 ((x1 : Int32).toNatClampNeg)))) (fun p36 => (kv9_bindv (kv9_st rfl (kr9_f_X12_patch N p36.2 (p36.2.a 70 ((x1 : Int32).toNatClampNeg)) (p36.2.i 20))) (fun p38 => (kv9_ite (kv9_ite (kv9_bindv (kv9_st rfl (kr9_f_X12_over N p38 1)) (fun p47 => (kv9_some rfl))) (kv9_ite (kv9_bindv (kv9_st rfl (kr9_f_X12_over N p38 1)) (fun p52 => (kv9_some rfl))) (kv9_bindv (kv9_st rfl (kr9_f_X12_over N p38 0)) (fun p50 => (kv9_some rfl))))) (kv9_ite (kv9_bindv (kv9_st rfl (kr9_f_X12_over N p38 1)) (fun p44 => (kv9_some rfl))) (kv9_bindv (kv9_st rfl (kr9_f_X12_over N p38 0)) (fun p42 => (kv9_some rfl))))))))))))))))) kv9_none)
theorem kr9_f_X12_forHead_231 (N : Nat) (σ : RS) (x1 : Int32) : KV9 σ (f_X12_forHead_231 N σ x1) := by
  unfold f_X12_forHead_231
  exact (kv9_ite (kv9_some rfl) kv9_none)
theorem kr9_f_X12_forHead_196 (N : Nat) (σ : RS) : KV9 σ (f_X12_forHead_196 N σ) := by
  unfold f_X12_forHead_196
  exact (kv9_bindv (kv9_st rfl (kr9_f_X12_next N σ)) (fun p21 => (kv9_bindv (kv9_st rfl (kr9_f_X12_then N p21 2 16)) (fun p23 => (kv9_some rfl)))))
theorem kr9_f_X12_forHead_142 (N : Nat) (σ : RS) : KV9 σ (f_X12_forHead_142 N σ) := by
  unfold f_X12_forHead_142
  exact (kv9_some rfl)
theorem kr9_f_X12_forHead_76 (N : Nat) (σ : RS) (x1 : Int32) (x2 : Int32) : KV9 σ (f_X12_forHead_76 N σ x1 x2) := by
  unfold f_X12_forHead_76
  exact (kv9_bindv (kv9_st rfl (kr9_f_X12_next N σ)) (fun p38 => (kv9_ite (kv9_bindv (kv9_st rfl (kr9_f_X12_then N p38 1 16)) (fun p50 => (kv9_st rfl (kr9_f_X12_forHead_142 N p50)))) (kv9_ite (kv9_bindv (kv9_st rfl (kr9_f_X12_next N p38)) (fun p45 => (kv9_bind (kr9_st rfl (kr9_f_X12_emit N p45 20 1)) (fun p47 => (kv9_ite (kv9_st rfl (kr9_f_X12_forHead_142 N (RS.setA p47.2 65 ((x1 : Int32).toNatClampNeg) 12))) kv9_none))))) (kv9_ite (kv9_bindv (kv9_st rfl (kr9_f_X12_then N (RS.setA p38 68 ((x1 : Int32).toNatClampNeg) 0) 10 16)) (fun p43 => (kv9_st rfl (kr9_f_X12_forHead_142 N p43)))) kv9_none)))))
theorem kr9_f_X12_forHead_61 (N : Nat) (σ : RS) (x1 : Int32) : KV9 σ (f_X12_forHead_61 N σ x1) := by
  unfold f_X12_forHead_61
  exact (kv9_ite (kv9_st rfl (kr9_f_X12_forHead_76 N σ x1 1)) (kv9_st rfl (kr9_f_X12_forHead_76 N σ x1 0)))
theorem kr9_f_X12_forHead (N : Nat) (σ : RS) (x1 : Int32) : KV9 σ (f_X12_forHead N σ x1) := by
  unfold f_X12_forHead
  exact (kv9_ite (kv9_ite (kv9_bindv (kv9_st rfl (kr9_f_X12_next N σ)) (fun p28 => (kv9_bind (kr9_st rfl (kr9_f_X12_telling N p28 x1)) (fun p30 => (kv9_ite (kv9_some rfl) (kv9_ite (kv9_bind (kr9_st rfl (kr9_f_X12_can N p30.2 1)) (fun p34 => (kv9_ite (kv9_some rfl) (kv9_st rfl (kr9_f_X12_forHead_61 N p34.2 x1))))) (kv9_ite (kv9_bind (kr9_st rfl (kr9_f_X12_can N p30.2 1)) (fun p56 => (kv9_ite (kv9_some rfl) (kv9_st rfl (kr9_f_X12_forHead_61 N p56.2 x1))))) (kv9_bind (kr9_st rfl (kr9_f_X12_can N p30.2 0)) (fun p53 => (kv9_ite (kv9_some rfl) (kv9_st rfl (kr9_f_X12_forHead_61 N p53.2 x1)))))))))))) (kv9_ite (kv9_bind (kr9_st rfl (kr9_f_X12_got N σ σ.l (σ.i 11))) (fun p12 => (kv9_ite (kv9_bindv (kv9_st rfl (kr9_f_X12_next N (RS.setA p12.2 66 ((x1 : Int32).toNatClampNeg) p12.1))) (fun p15 => (kv9_ite (kv9_bind (kr9_st rfl (kr9_f_X12_can N p15 1)) (fun p25 => (kv9_ite (kv9_some rfl) (kv9_st rfl (kr9_f_X12_forHead_196 N p25.2))))) (kv9_bind (kr9_st rfl (kr9_f_X12_can N p15 0)) (fun p18 => (kv9_ite (kv9_some rfl) (kv9_st rfl (kr9_f_X12_forHead_196 N p18.2)))))))) kv9_none))) (kv9_ite (kv9_bind (kr9_st rfl (kr9_f_X12_can N σ 1)) (fun p9 => (kv9_ite (kv9_some rfl) (kv9_st rfl (kr9_f_X12_forHead_231 N p9.2 x1))))) (kv9_bind (kr9_st rfl (kr9_f_X12_can N σ 0)) (fun p5 => (kv9_ite (kv9_some rfl) (kv9_st rfl (kr9_f_X12_forHead_231 N p5.2 x1)))))))) (kv9_some rfl))
theorem kr9_f_X12_forBehind_59 (N : Nat) (σ : RS) (x1 : Int32) : KV9 σ (f_X12_forBehind_59 N σ x1) := by
  unfold f_X12_forBehind_59
  exact (kv9_ite (kv9_some rfl) kv9_none)
theorem kr9_f_X12_forBehind_159 (N : Nat) (σ : RS) (x1 : Int32) (x2 : Int32) : KV9 σ (f_X12_forBehind_159 N σ x1 x2) := by
  unfold f_X12_forBehind_159
  exact (kv9_bindv (kv9_st rfl (kr9_f_X12_next N σ)) (fun p25 => (kv9_ite (kv9_bindv (kv9_st rfl (kr9_f_X12_then N p25 6 16)) (fun p28 => (kv9_some rfl))) (kv9_ite (kv9_bind (kr9_st rfl (kr9_f_X12_emit N p25 6 (p25.a 73 ((x1 : Int32).toNatClampNeg)))) (fun p31 => (kv9_some rfl))) kv9_none))))
theorem kr9_f_X12_forBehind_143 (N : Nat) (σ : RS) (x1 : Int32) : KV9 σ (f_X12_forBehind_143 N σ x1) := by
  unfold f_X12_forBehind_143
  exact (kv9_ite (kv9_st rfl (kr9_f_X12_forBehind_159 N σ x1 1)) (kv9_st rfl (kr9_f_X12_forBehind_159 N σ x1 0)))
theorem kr9_f_X12_forBehind_89 (N : Nat) (σ : RS) (x1 : Int32) : KV9 σ (f_X12_forBehind_89 N σ x1) := by
  unfold f_X12_forBehind_89
  exact (kv9_bind (kr9_st rfl (kr9_f_X12_got N σ σ.l (σ.i 11))) (fun p15 => (kv9_ite (kv9_bindv (kv9_st rfl (kr9_f_X12_next N (RS.setA p15.2 73 ((x1 : Int32).toNatClampNeg) p15.1))) (fun p18 => (kv9_ite (kv9_bind (kr9_st rfl (kr9_f_X12_can N p18 1)) (fun p21 => (kv9_ite (kv9_some rfl) (kv9_st rfl (kr9_f_X12_forBehind_143 N p21.2 x1))))) (kv9_ite (kv9_bind (kr9_st rfl (kr9_f_X12_can N p18 1)) (fun p37 => (kv9_ite (kv9_some rfl) (kv9_st rfl (kr9_f_X12_forBehind_143 N p37.2 x1))))) (kv9_bind (kr9_st rfl (kr9_f_X12_can N p18 0)) (fun p34 => (kv9_ite (kv9_some rfl) (kv9_st rfl (kr9_f_X12_forBehind_143 N p34.2 x1))))))))) kv9_none)))
theorem kr9_f_X12_forBehind (N : Nat) (σ : RS) (x1 : Int32) : KV9 σ (f_X12_forBehind N σ x1) := by
  unfold f_X12_forBehind
  exact (kv9_bind (kr9_st rfl (kr9_f_X12_need N σ 59)) (fun p1 => (kv9_bind (kr9_st rfl (kr9_f_X12_emit N p1.2 13 0)) (fun p3 => (kv9_ite (kv9_bind (kr9_st rfl (kr9_f_X12_emit N (RS.setA p3.2 67 ((x1 : Int32).toNatClampNeg) p3.1) 15 0)) (fun p6 => (kv9_ite (kv9_ite (kv9_st rfl (kr9_f_X12_forBehind_59 N (RS.setA (RS.setA p6.2 68 ((x1 : Int32).toNatClampNeg) p6.1) 70 ((x1 : Int32).toNatClampNeg) (p6.2.i 20)) x1)) (kv9_ite (kv9_bind (kr9_st rfl (kr9_f_X12_can N (RS.setA (RS.setA p6.2 68 ((x1 : Int32).toNatClampNeg) p6.1) 70 ((x1 : Int32).toNatClampNeg) (p6.2.i 20)) 1)) (fun p40 => (kv9_ite (kv9_some rfl) (kv9_st rfl (kr9_f_X12_forBehind_89 N p40.2 x1))))) (kv9_bind (kr9_st rfl (kr9_f_X12_can N (RS.setA (RS.setA p6.2 68 ((x1 : Int32).toNatClampNeg) p6.1) 70 ((x1 : Int32).toNatClampNeg) (p6.2.i 20)) 0)) (fun p12 => (kv9_ite (kv9_some rfl) (kv9_st rfl (kr9_f_X12_forBehind_89 N p12.2 x1))))))) (kv9_st rfl (kr9_f_X12_forBehind_59 N (RS.setA (RS.setA p6.2 68 ((x1 : Int32).toNatClampNeg) p6.1) 70 ((x1 : Int32).toNatClampNeg) (p6.2.i 20)) x1))))) kv9_none)))))
theorem kr9_f_X12_rows (N : Nat) (σ : RS) (x1 : Int32) : KV9 σ (f_X12_rows N σ x1) := by
  unfold f_X12_rows
  exact (kv9_ite (kv9_ite (kv9_ite (kv9_bindv (kv9_st rfl (kr9_f_X12_next N (RS.setA σ 68 ((x1 : Int32).toNatClampNeg) ((σ.a 68 ((x1 : Int32).toNatClampNeg)) + 1)))) (fun p30 => (kv9_bindv (kv9_st rfl (kr9_f_X12_then N p30 10 16)) (fun p32 => (kv9_some rfl))))) (kv9_bind (kr9_st rfl (kr9_f_X12_emit N (RS.setA σ 68 ((x1 : Int32).toNatClampNeg) ((σ.a 68 ((x1 : Int32).toNatClampNeg)) + 1)) 23 ((upd (σ.a 68) ((x1 : Int32).toNatClampNeg) ((σ.a 68 ((x1 : Int32).toNatClampNeg)) + 1)) ((x1 : Int32).toNatClampNeg)))) (fun p28 => (kv9_some rfl)))) (kv9_ite (kv9_bind (kr9_st rfl (kr9_f_X12_see N σ (σ.b 74 ((x1 : Int32).toNatClampNeg)) 0)) (fun p16 => (kv9_bind (kr9_st rfl (kr9_f_X12_shut N p16.2 41)) (fun p18 => (kv9_bind (kr9_st rfl (kr9_f_X12_emit N (RS.setI p18.2 52 ((p18.2.i 52) + 1)) 24 0)) (fun p20 => (kv9_ite (kv9_bind (kr9_st rfl (kr9_f_X12_loopGoal N (RS.setA (RS.setA p20.2 66 ((x1 : Int32).toNatClampNeg) p20.1) 23 ((((upd (p20.2.a 66) ((x1 : Int32).toNatClampNeg) p20.1) ((x1 : Int32).toNatClampNeg)) : Int32).toNatClampNeg) p16.1))) (fun p23 => (kv9_bindv (kv9_st rfl (kr9_f_X12_body N (RS.setA p23.2 73 ((x1 : Int32).toNatClampNeg) p23.1) 13)) (fun p25 => (kv9_some rfl))))) kv9_none))))))) (kv9_ite (kv9_bindv (kv9_st rfl (kr9_f_X12_patch N σ (σ.a 49 (((σ.a 73 ((x1 : Int32).toNatClampNeg)) : Int32).toNatClampNeg)) (σ.a 66 ((x1 : Int32).toNatClampNeg)))) (fun p5 => (kv9_bind (kr9_st rfl (kr9_f_X12_emit N p5 15 (p5.a 66 ((x1 : Int32).toNatClampNeg)))) (fun p7 => (kv9_ite (kv9_bindv (kv9_st rfl (kr9_f_X12_patch N (RS.setA p7.2 22 (((p7.2.a 66 ((x1 : Int32).toNatClampNeg)) : Int32).toNatClampNeg) (p7.2.i 20)) (p7.2.a 48 (((σ.a 73 ((x1 : Int32).toNatClampNeg)) : Int32).toNatClampNeg)) (p7.2.i 20))) (fun p10 => (kv9_bind (kr9_st rfl (kr9_f_X12_emit N p10 25 0)) (fun p12 => (kv9_bindv (kv9_st rfl (kr9_f_X12_over N (RS.setI (RS.setI (RS.setI p12.2 52 ((p12.2.i 52) - 1)) 43 ((p12.2.i 43) - 1)) 38 (p12.2.a 71 ((x1 : Int32).toNatClampNeg))) 1)) (fun p14 => (kv9_some rfl))))))) kv9_none))))) kv9_none))) kv9_none)
theorem kr9_f_X12_fors_195 (N : Nat) (σ : RS) (x1 : Int32) : KV9 σ (f_X12_fors_195 N σ x1) := by
  unfold f_X12_fors_195
  exact (kv9_ite (kv9_bind (kr9_st rfl (kr9_f_X12_emit N σ 2 1)) (fun p26 => (kv9_ite (kv9_some rfl) kv9_none))) (kv9_bindv (kv9_st rfl (kr9_f_X12_then N σ 4 20)) (fun p24 => (kv9_some rfl))))
theorem kr9_f_X12_fors_175 (N : Nat) (σ : RS) (x1 : Int32) : KV9 σ (f_X12_fors_175 N σ x1) := by
  unfold f_X12_fors_175
  exact (kv9_ite (kv9_ite (kv9_st rfl (kr9_f_X12_fors_195 N (RS.setA σ 72 ((x1 : Int32).toNatClampNeg) 1) x1)) kv9_none) (kv9_ite (kv9_st rfl (kr9_f_X12_fors_195 N (RS.setA σ 72 ((x1 : Int32).toNatClampNeg) 0) x1)) kv9_none))
theorem kr9_f_X12_fors_255 (N : Nat) (σ : RS) (x1 : Int32) : KV9 σ (f_X12_fors_255 N σ x1) := by
  unfold f_X12_fors_255
  exact (kv9_ite (kv9_some rfl) kv9_none)
theorem kr9_f_X12_fors_469 (N : Nat) (σ : RS) : KV9 σ (f_X12_fors_469 N σ) := by
  unfold f_X12_fors_469
  exact (kv9_some rfl)
theorem kr9_f_X12_fors (N : Nat) (σ : RS) (x1 : Int32) : KV9 σ (f_X12_fors N σ x1) := by
  unfold f_X12_fors
  exact (kv9_ite (kv9_ite (kv9_bindv (kv9_st rfl (kr9_f_X12_next N (RS.setA σ 71 ((x1 : Int32).toNatClampNeg) (σ.i 38)))) (fun p3 => (kv9_bind (kr9_st rfl (kr9_f_X12_open N p3 40)) (fun p5 => (kv9_bindv (kv9_st rfl (kr9_f_X12_forHead N p5.2 x1)) (fun p7 => (kv9_some rfl))))))) (kv9_ite (kv9_bind (kr9_st rfl (kr9_f_X12_see N σ (σ.b 74 ((x1 : Int32).toNatClampNeg)) 0)) (fun p10 => (kv9_bind (kr9_st rfl (kr9_f_X12_emit N p10.2 5 p10.1)) (fun p12 => (kv9_some rfl))))) (kv9_ite (kv9_bind (kr9_st rfl (kr9_f_X12_emit N σ 5 (σ.a 66 ((x1 : Int32).toNatClampNeg)))) (fun p15 => (kv9_some rfl))) (kv9_ite (kv9_bind (kr9_st rfl (kr9_f_X12_need N σ 59)) (fun p18 => (kv9_ite (kv9_st rfl (kr9_f_X12_fors_175 N (RS.setA (RS.setA p18.2 66 ((x1 : Int32).toNatClampNeg) (p18.2.i 20)) 69 ((x1 : Int32).toNatClampNeg) (p18.2.i 17)) x1)) (kv9_st rfl (kr9_f_X12_fors_175 N (RS.setA (RS.setA p18.2 66 ((x1 : Int32).toNatClampNeg) (p18.2.i 20)) 69 ((x1 : Int32).toNatClampNeg) 0) x1))))) (kv9_ite (kv9_bind (kr9_st rfl (kr9_f_X12_isJustTrue N σ (σ.a 69 ((x1 : Int32).toNatClampNeg)))) (fun p31 => (kv9_ite (kv9_st rfl (kr9_f_X12_fors_255 N (RS.setA p31.2 72 ((x1 : Int32).toNatClampNeg) 0) x1)) (kv9_st rfl (kr9_f_X12_fors_255 N (RS.setA p31.2 72 ((x1 : Int32).toNatClampNeg) 1) x1))))) (kv9_ite (kv9_bindv (kv9_st rfl (kr9_f_X12_forBehind N σ x1)) (fun p36 => (kv9_some rfl))) (kv9_ite (kv9_bind (kr9_st rfl (kr9_f_X12_emit N σ 5 (σ.a 73 ((x1 : Int32).toNatClampNeg)))) (fun p39 => (kv9_some rfl))) (kv9_ite (kv9_bind (kr9_st rfl (kr9_f_X12_emit N σ 15 (σ.a 66 ((x1 : Int32).toNatClampNeg)))) (fun p42 => (kv9_bind (kr9_st rfl (kr9_f_X12_shut N p42.2 41)) (fun p44 => (kv9_ite (kv9_bind (kr9_st rfl (kr9_f_X12_emit N (RS.setA p44.2 22 (((p44.2.a 68 ((x1 : Int32).toNatClampNeg)) : Int32).toNatClampNeg) (p44.2.i 20)) 1 0)) (fun p47 => (kv9_bind (kr9_st rfl (kr9_f_X12_loopGoal N p47.2)) (fun p49 => (kv9_bindv (kv9_st rfl (kr9_f_X12_body N (RS.setA p49.2 73 ((x1 : Int32).toNatClampNeg) p49.1) 8)) (fun p51 => (kv9_some rfl))))))) kv9_none))))) (kv9_ite (kv9_ite (kv9_bindv (kv9_st rfl (kr9_f_X12_patch N σ (σ.a 49 (((σ.a 73 ((x1 : Int32).toNatClampNeg)) : Int32).toNatClampNeg)) (σ.a 70 ((x1 : Int32).toNatClampNeg)))) (fun p55 => (kv9_bind (kr9_st rfl (kr9_f_X12_emit N p55 15 (p55.a 70 ((x1 : Int32).toNatClampNeg)))) (fun p57 => (kv9_ite (kv9_bindv (kv9_st rfl (kr9_f_X12_patch N (RS.setA p57.2 22 (((p57.2.a 67 ((x1 : Int32).toNatClampNeg)) : Int32).toNatClampNeg) (p57.2.i 20)) (p57.2.a 48 (((σ.a 73 ((x1 : Int32).toNatClampNeg)) : Int32).toNatClampNeg)) (p57.2.i 20))) (fun p60 => (kv9_ite (kv9_bindv (kv9_st rfl (kr9_f_X12_over N (RS.setI (RS.setI p60 43 ((p60.i 43) - 1)) 38 (p60.a 71 ((x1 : Int32).toNatClampNeg))) 1)) (fun p63 => (kv9_st rfl (kr9_f_X12_fors_469 N p63)))) (kv9_ite (kv9_bindv (kv9_st rfl (kr9_f_X12_over N (RS.setI (RS.setI p60 43 ((p60.i 43) - 1)) 38 (p60.a 71 ((x1 : Int32).toNatClampNeg))) 0)) (fun p66 => (kv9_st rfl (kr9_f_X12_fors_469 N p66)))) (kv9_bindv (kv9_st rfl (kr9_f_X12_over N (RS.setI (RS.setI p60 43 ((p60.i 43) - 1)) 38 (p60.a 71 ((x1 : Int32).toNatClampNeg))) 1)) (fun p68 => (kv9_st rfl (kr9_f_X12_fors_469 N p68)))))))) kv9_none))))) kv9_none) (kv9_bindv (kv9_st rfl (kr9_f_X12_rows N σ x1)) (fun p70 => (kv9_some rfl)))))))))))) kv9_none)
theorem kr9_f_X12_lock_94 (N : Nat) (σ : RS) : KV9 σ (f_X12_lock_94 N σ) := by
  unfold f_X12_lock_94
  exact (kv9_bind (kr9_st rfl (kr9_f_X12_shut N σ 41)) (fun p13 => (kv9_bindv (kv9_st rfl (kr9_f_X12_then N (RS.setI p13.2 52 ((p13.2.i 52) + 1)) 1 3)) (fun p15 => (kv9_some rfl)))))
theorem kr9_f_X12_lock_90 (N : Nat) (σ : RS) : KV9 σ (f_X12_lock_90 N σ) := by
  unfold f_X12_lock_90
  exact (kv9_bindv (kv9_st rfl (kr9_f_X12_next N σ)) (fun p21 => (kv9_st rfl (kr9_f_X12_lock_94 N p21))))
theorem kr9_f_X12_lock_50 (N : Nat) (σ : RS) : KV9 σ (f_X12_lock_50 N σ) := by
  unfold f_X12_lock_50
  exact (kv9_ite (kv9_bind (kr9_st rfl (kr9_f_X12_emit N σ 20 1)) (fun p24 => (kv9_st rfl (kr9_f_X12_lock_90 N p24.2)))) (kv9_bind (kr9_st rfl (kr9_f_X12_emit N σ 26 (σ.i 14))) (fun p19 => (kv9_st rfl (kr9_f_X12_lock_90 N p19.2)))))
theorem kr9_f_X12_lock (N : Nat) (σ : RS) (x1 : Int32) : KV9 σ (f_X12_lock N σ x1) := by
  unfold f_X12_lock
  exact (kv9_ite (kv9_ite (kv9_bindv (kv9_st rfl (kr9_f_X12_next N σ)) (fun p5 => (kv9_bind (kr9_st rfl (kr9_f_X12_open N p5 40)) (fun p7 => (kv9_ite (kv9_bind (kr9_st rfl (kr9_f_X12_can N p7.2 1)) (fun p10 => (kv9_ite (kv9_st rfl (kr9_f_X12_lock_94 N p10.2)) (kv9_st rfl (kr9_f_X12_lock_50 N p10.2))))) (kv9_ite (kv9_bind (kr9_st rfl (kr9_f_X12_can N p7.2 1)) (fun p30 => (kv9_ite (kv9_st rfl (kr9_f_X12_lock_94 N p30.2)) (kv9_st rfl (kr9_f_X12_lock_50 N p30.2))))) (kv9_bind (kr9_st rfl (kr9_f_X12_can N p7.2 0)) (fun p27 => (kv9_ite (kv9_st rfl (kr9_f_X12_lock_94 N p27.2)) (kv9_st rfl (kr9_f_X12_lock_50 N p27.2))))))))))) (kv9_bind (kr9_st rfl (kr9_f_X12_emit N σ 27 0)) (fun p3 => (kv9_some rfl)))) kv9_none)
theorem kr9_f_X12_entry_85 (N : Nat) (σ : RS) (x1 : Int32) : KV9 σ (f_X12_entry_85 N σ x1) := by
  unfold f_X12_entry_85
  exact (kv9_ite (kv9_some rfl) kv9_none)
theorem kr9_f_X12_entry (N : Nat) (σ : RS) (x1 : Int32) (x2 : Int32) (x3 : Int32) : KV9 σ (f_X12_entry N σ x1 x2 x3) := by
  unfold f_X12_entry
  exact (kv9_ite (kv9_ite (kv9_ite (kv9_ite (kv9_st rfl (kr9_f_X12_entry_85 N (RS.setA (RS.setA (RS.setA (RS.setA (RS.setA σ 25 (((σ.i 24) : Int32).toNatClampNeg) x2) 26 (((σ.i 24) : Int32).toNatClampNeg) (σ.i 20)) 27 (((σ.i 24) : Int32).toNatClampNeg) (-1)) 28 (((σ.i 24) : Int32).toNatClampNeg) (vp_nar .boolean x3)) 27 (((σ.a 67 ((x1 : Int32).toNatClampNeg)) : Int32).toNatClampNeg) (σ.i 24)) x1)) kv9_none) (kv9_ite (kv9_st rfl (kr9_f_X12_entry_85 N (RS.setA (RS.setA (RS.setA (RS.setA (RS.setA σ 25 (((σ.i 24) : Int32).toNatClampNeg) x2) 26 (((σ.i 24) : Int32).toNatClampNeg) (σ.i 20)) 27 (((σ.i 24) : Int32).toNatClampNeg) (-1)) 28 (((σ.i 24) : Int32).toNatClampNeg) (vp_nar .boolean x3)) 22 (((σ.a 66 ((x1 : Int32).toNatClampNeg)) : Int32).toNatClampNeg) (σ.i 24)) x1)) kv9_none)) kv9_none) kv9_none)
theorem kr9_f_X12_caseNumber_140 (N : Nat) (σ : RS) : KR9 σ (f_X12_caseNumber_140 N σ) := by
  unfold f_X12_caseNumber_140
  exact (kr9_ite (kr9_some rfl) (kr9_some rfl))
theorem kr9_b_X12_caseNumber_75 (N : Nat) (K : RS → Int32 → Int32 → Int32 → Option (Int32 × RS)) (hK : ∀ (σ : RS) (y0 : Int32) (y1 : Int32) (y2 : Int32), KR9 σ (K σ y0 y1 y2)) (σ : RS) (x1 : Int32) (x3 : Int32) (x4 : Int32) : KR9 σ (b_X12_caseNumber_75 N K σ x1 x3 x4) := by
  unfold b_X12_caseNumber_75
  exact (kr9_ite (kr9_ite (kr9_bindv (kv9_st rfl (kr9_f_X12_entry N σ x1 x3 0)) (fun p13 => (kr9_bindv (kv9_st rfl (kr9_f_X12_next N p13)) (fun p15 => (kr9_st rfl (kr9_f_X12_caseNumber_140 N p15)))))) (kr9_st rfl (kr9_f_X12_caseNumber_140 N σ))) (kr9_ite (kr9_ite (kr9_ite (kr9_bindv (kv9_st rfl (kr9_f_X12_fail N σ 4 (σ.i 11))) (fun p20 => (kr9_st rfl (hK p20 x1 x3 (p20.a 27 ((x4 : Int32).toNatClampNeg)))))) (kr9_st rfl (hK σ x1 x3 (σ.a 27 ((x4 : Int32).toNatClampNeg))))) (kr9_st rfl (hK σ x1 x3 (σ.a 27 ((x4 : Int32).toNatClampNeg))))) kr9_none))
theorem kr9_f_X12_caseNumber_75 (N : Nat) : ∀ (n : Nat) (σ : RS) (y0 : Int32) (y1 : Int32) (y2 : Int32), KR9 σ (f_X12_caseNumber_75 N n σ y0 y1 y2)
  | 0, _, _, _, _ => kr9_none
  | n+1, σ, y0, y1, y2 => kr9_b_X12_caseNumber_75 N (f_X12_caseNumber_75 N n) (fun σ y0 y1 y2 => kr9_f_X12_caseNumber_75 N n σ y0 y1 y2) σ y0 y1 y2
theorem kr9_f_X12_caseNumber_62 (N : Nat) (σ : RS) (x1 : Int32) (x3 : Int32) : KR9 σ (f_X12_caseNumber_62 N σ x1 x3) := by
  unfold f_X12_caseNumber_62
  exact (kr9_ite (kr9_ite (kr9_st rfl (kr9_f_X12_caseNumber_75 N N σ x1 x3 (σ.a 22 (((σ.a 66 ((x1 : Int32).toNatClampNeg)) : Int32).toNatClampNeg)))) kr9_none) kr9_none)
theorem kr9_f_X12_caseNumber_45 (N : Nat) (σ : RS) (x1 : Int32) (x2 : Int32) : KR9 σ (f_X12_caseNumber_45 N σ x1 x2) := by
  unfold f_X12_caseNumber_45
  exact (kr9_ite (kr9_st rfl (kr9_f_X12_caseNumber_62 N σ x1 (σ.i 14))) (kr9_st rfl (kr9_f_X12_caseNumber_62 N σ x1 (-(σ.i 14)))))
theorem kr9_f_X12_caseNumber_43 (N : Nat) (σ : RS) : KR9 σ (f_X12_caseNumber_43 N σ) := by
  unfold f_X12_caseNumber_43
  exact (kr9_some rfl)
theorem kr9_f_X12_caseNumber_23 (N : Nat) (σ : RS) (x1 : Int32) (x2 : Int32) : KR9 σ (f_X12_caseNumber_23 N σ x1 x2) := by
  unfold f_X12_caseNumber_23
  exact (kr9_ite (kr9_bind (kr9_st rfl (kr9_f_X12_can N σ 1)) (fun p22 => (kr9_ite (kr9_st rfl (kr9_f_X12_caseNumber_43 N p22.2)) (kr9_st rfl (kr9_f_X12_caseNumber_45 N p22.2 x1 x2))))) (kr9_bind (kr9_st rfl (kr9_f_X12_can N σ 0)) (fun p4 => (kr9_ite (kr9_st rfl (kr9_f_X12_caseNumber_43 N p4.2)) (kr9_st rfl (kr9_f_X12_caseNumber_45 N p4.2 x1 x2))))))
theorem kr9_f_X12_caseNumber_15 (N : Nat) (σ : RS) (x1 : Int32) (x2 : Int32) : KR9 σ (f_X12_caseNumber_15 N σ x1 x2) := by
  unfold f_X12_caseNumber_15
  exact (kr9_ite (kr9_st rfl (kr9_f_X12_caseNumber_23 N σ x1 x2)) (kr9_bindv (kv9_st rfl (kr9_f_X12_next N σ)) (fun p25 => (kr9_st rfl (kr9_f_X12_caseNumber_23 N p25 x1 x2)))))
theorem kr9_f_X12_caseNumber (N : Nat) (σ : RS) (x1 : Int32) : KR9 σ (f_X12_caseNumber N σ x1) := by
  unfold f_X12_caseNumber
  exact (kr9_ite (kr9_st rfl (kr9_f_X12_caseNumber_15 N σ x1 1)) (kr9_st rfl (kr9_f_X12_caseNumber_15 N σ x1 0)))
theorem kr9_f_X12_groups_335 (N : Nat) (σ : RS) : KV9 σ (f_X12_groups_335 N σ) := by
  unfold f_X12_groups_335
  exact (kv9_some rfl)
theorem kr9_f_X12_groups_356 (N : Nat) (σ : RS) (x1 : Int32) : KV9 σ (f_X12_groups_356 N σ x1) := by
  unfold f_X12_groups_356
  exact (kv9_ite (kv9_some rfl) kv9_none)
theorem kr9_f_X12_groups (N : Nat) (σ : RS) (x1 : Int32) : KV9 σ (f_X12_groups N σ x1) := by
  unfold f_X12_groups
  exact (kv9_ite (kv9_ite (kv9_bindv (kv9_st rfl (kr9_f_X12_next N σ)) (fun p3 => (kv9_bind (kr9_st rfl (kr9_f_X12_open N p3 40)) (fun p5 => (kv9_bindv (kv9_st rfl (kr9_f_X12_then N p5.2 1 16)) (fun p7 => (kv9_some rfl))))))) (kv9_ite (kv9_bind (kr9_st rfl (kr9_f_X12_shut N σ 41)) (fun p10 => (kv9_bind (kr9_st rfl (kr9_f_X12_emit N p10.2 28 (-1))) (fun p12 => (kv9_bind (kr9_st rfl (kr9_f_X12_goal N (RS.setA (RS.setA (RS.setA (RS.setA (RS.setA p12.2 66 ((x1 : Int32).toNatClampNeg) p12.1) 67 ((x1 : Int32).toNatClampNeg) (-1)) 68 ((x1 : Int32).toNatClampNeg) 0) 70 ((x1 : Int32).toNatClampNeg) 1) 71 ((x1 : Int32).toNatClampNeg) (p12.2.i 38)) 1 0)) (fun p14 => (kv9_bind (kr9_st rfl (kr9_f_X12_open N (RS.setA p14.2 72 ((x1 : Int32).toNatClampNeg) p14.1) 123)) (fun p16 => (kv9_some rfl))))))))) (kv9_ite (kv9_ite (kv9_bindv (kv9_st rfl (kr9_f_X12_next N σ)) (fun p49 => (kv9_bind (kr9_st rfl (kr9_f_X12_caseNumber N p49 x1)) (fun p51 => (kv9_ite (kv9_some rfl) (kv9_bind (kr9_st rfl (kr9_f_X12_need N p51.2 58)) (fun p54 => (kv9_bindv (kv9_st rfl (kr9_f_X12_then N p54.2 3 1)) (fun p56 => (kv9_some rfl)))))))))) (kv9_ite (kv9_ite (kv9_bindv (kv9_st rfl (kr9_f_X12_fail N σ 4 (σ.i 11))) (fun p47 => (kv9_some rfl))) (kv9_bindv (kv9_st rfl (kr9_f_X12_entry N (RS.setA σ 68 ((x1 : Int32).toNatClampNeg) 1) x1 0 1)) (fun p39 => (kv9_bindv (kv9_st rfl (kr9_f_X12_next N p39)) (fun p41 => (kv9_bind (kr9_st rfl (kr9_f_X12_need N p41 58)) (fun p43 => (kv9_bindv (kv9_st rfl (kr9_f_X12_then N p43.2 3 1)) (fun p45 => (kv9_some rfl)))))))))) (kv9_bind (kr9_st rfl (kr9_f_X12_shut N σ 125)) (fun p21 => (kv9_ite (kv9_ite (kv9_bindv (kv9_st rfl (kr9_f_X12_patch N (RS.setA p21.2 23 (((p21.2.a 66 ((x1 : Int32).toNatClampNeg)) : Int32).toNatClampNeg) (p21.2.i 20)) (p21.2.a 48 (((p21.2.a 72 ((x1 : Int32).toNatClampNeg)) : Int32).toNatClampNeg)) (p21.2.i 20))) (fun p25 => (kv9_ite (kv9_bindv (kv9_st rfl (kr9_f_X12_over N (RS.setI (RS.setI p25 43 ((p25.i 43) - 1)) 38 (p25.a 71 ((x1 : Int32).toNatClampNeg))) 1)) (fun p28 => (kv9_st rfl (kr9_f_X12_groups_335 N p28)))) (kv9_ite (kv9_bindv (kv9_st rfl (kr9_f_X12_over N (RS.setI (RS.setI p25 43 ((p25.i 43) - 1)) 38 (p25.a 71 ((x1 : Int32).toNatClampNeg))) 1)) (fun p31 => (kv9_st rfl (kr9_f_X12_groups_335 N p31)))) (kv9_ite (kv9_bindv (kv9_st rfl (kr9_f_X12_over N (RS.setI (RS.setI p25 43 ((p25.i 43) - 1)) 38 (p25.a 71 ((x1 : Int32).toNatClampNeg))) 0)) (fun p34 => (kv9_st rfl (kr9_f_X12_groups_335 N p34)))) (kv9_bindv (kv9_st rfl (kr9_f_X12_over N (RS.setI (RS.setI p25 43 ((p25.i 43) - 1)) 38 (p25.a 71 ((x1 : Int32).toNatClampNeg))) 1)) (fun p36 => (kv9_st rfl (kr9_f_X12_groups_335 N p36))))))))) kv9_none) kv9_none))))) (kv9_ite (kv9_st rfl (kr9_f_X12_groups_356 N (RS.setA σ 70 ((x1 : Int32).toNatClampNeg) 0) x1)) (kv9_st rfl (kr9_f_X12_groups_356 N (RS.setA σ 70 ((x1 : Int32).toNatClampNeg) 1) x1)))))) kv9_none)
theorem kr9_b_X12_catching_323 (N : Nat) (K : RS → Int32 → Int32 → Option (RS)) (hK : ∀ (σ : RS) (y0 : Int32) (y1 : Int32), KV9 σ (K σ y0 y1)) (σ : RS) (x4 : Int32) (x5 : Int32) : KV9 σ (b_X12_catching_323 N K σ x4 x5) := by
  unfold b_X12_catching_323
  exact (kv9_ite (kv9_bindv (kv9_st rfl (kr9_f_X12_then N σ 3 3)) (fun p20 => (kv9_some rfl))) (kv9_ite (kv9_st rfl (hK (RS.setA (RS.setA σ 35 ((x5 : Int32).toNatClampNeg) (σ.i 20)) 36 ((x5 : Int32).toNatClampNeg) x4) x4 (x5 + 1))) kv9_none))
theorem kr9_f_X12_catching_323 (N : Nat) : ∀ (n : Nat) (σ : RS) (y0 : Int32) (y1 : Int32), KV9 σ (f_X12_catching_323 N n σ y0 y1)
  | 0, _, _, _ => kv9_none
  | n+1, σ, y0, y1 => kr9_b_X12_catching_323 N (f_X12_catching_323 N n) (fun σ y0 y1 => kr9_f_X12_catching_323 N n σ y0 y1) σ y0 y1
theorem kr9_f_X12_catching_277 (N : Nat) (σ : RS) (x2 : Int32) : KV9 σ (f_X12_catching_277 N σ x2) := by
  unfold f_X12_catching_277
  exact (kv9_bind (kr9_st rfl (kr9_f_X12_seenAs N σ σ.l)) (fun p10 => (kv9_ite (kv9_bind (kr9_st rfl (kr9_f_X12_see N p10.2 p10.2.l 1)) (fun p13 => (kv9_bindv (kv9_st rfl (kr9_f_X12_next N p13.2)) (fun p15 => (kv9_bind (kr9_st rfl (kr9_f_X12_shut N p15 41)) (fun p17 => (kv9_st rfl (kr9_f_X12_catching_323 N N p17.2 p13.1 x2)))))))) (kv9_bindv (kv9_st rfl (kr9_f_X12_fail N p10.2 4 (p10.2.i 11))) (fun p23 => (kv9_some rfl))))))
theorem kr9_f_X12_catching_256 (N : Nat) (σ : RS) (x2 : Int32) : KV9 σ (f_X12_catching_256 N σ x2) := by
  unfold f_X12_catching_256
  exact (kv9_ite (kv9_bind (kr9_st rfl (kr9_f_X12_can N σ 1)) (fun p25 => (kv9_ite (kv9_some rfl) (kv9_st rfl (kr9_f_X12_catching_277 N p25.2 x2))))) (kv9_bind (kr9_st rfl (kr9_f_X12_can N σ 0)) (fun p7 => (kv9_ite (kv9_some rfl) (kv9_st rfl (kr9_f_X12_catching_277 N p7.2 x2))))))
theorem kr9_b_X12_catching_82 (N : Nat) (K18 : RS → Int32 → Int32 → Int32 → Option (RS)) (hK18 : ∀ (σ : RS) (y0 : Int32) (y1 : Int32) (y2 : Int32), KV9 σ (K18 σ y0 y1 y2)) (K : RS → Int32 → Int32 → Int32 → Option (RS)) (hK : ∀ (σ : RS) (y0 : Int32) (y1 : Int32) (y2 : Int32), KV9 σ (K σ y0 y1 y2)) (σ : RS) (x1 : Int32) (x2 : Int32) (x4 : Int32) : KV9 σ (b_X12_catching_82 N K18 K σ x1 x2 x4) := by
  unfold b_X12_catching_82
  exact (kv9_ite (kv9_ite (kv9_ite (kv9_ite (kv9_ite (kv9_bindv (kv9_st rfl (kr9_f_X12_next N (RS.setI (RS.setA (RS.setA (RS.setA (RS.setA σ 34 (((σ.i 33) : Int32).toNatClampNeg) (σ.i 14)) 37 (((σ.i 33) : Int32).toNatClampNeg) (-1)) 37 (((σ.a 72 ((x1 : Int32).toNatClampNeg)) : Int32).toNatClampNeg) (σ.i 33)) 72 ((x1 : Int32).toNatClampNeg) (σ.i 33)) 33 ((σ.i 33) + 1)))) (fun p41 => (kv9_ite (kv9_ite (kv9_bindv (kv9_st rfl (kr9_f_X12_next N p41)) (fun p45 => (kv9_st rfl (hK18 p45 x1 x2 1)))) (kv9_st rfl (hK18 p41 x1 x2 0))) (kv9_st rfl (hK18 p41 x1 x2 0))))) kv9_none) (kv9_ite (kv9_bindv (kv9_st rfl (kr9_f_X12_next N (RS.setI (RS.setA (RS.setA (RS.setA (RS.setA σ 34 (((σ.i 33) : Int32).toNatClampNeg) (σ.i 14)) 37 (((σ.i 33) : Int32).toNatClampNeg) (-1)) 30 (((σ.a 66 ((x1 : Int32).toNatClampNeg)) : Int32).toNatClampNeg) (σ.i 33)) 72 ((x1 : Int32).toNatClampNeg) (σ.i 33)) 33 ((σ.i 33) + 1)))) (fun p48 => (kv9_ite (kv9_ite (kv9_bindv (kv9_st rfl (kr9_f_X12_next N p48)) (fun p52 => (kv9_st rfl (hK18 p52 x1 x2 1)))) (kv9_st rfl (hK18 p48 x1 x2 0))) (kv9_st rfl (hK18 p48 x1 x2 0))))) kv9_none)) kv9_none) kv9_none) (kv9_ite (kv9_ite (kv9_bind (kr9_st rfl (kr9_f_X12_isUnder N σ (σ.i 14) (σ.a 34 ((x4 : Int32).toNatClampNeg)))) (fun p73 => (kv9_ite (kv9_st rfl (hK p73.2 x1 x2 (p73.2.a 37 ((x4 : Int32).toNatClampNeg)))) (kv9_bindv (kv9_st rfl (kr9_f_X12_fail N p73.2 6 (p73.2.i 11))) (fun p76 => (kv9_st rfl (hK p76 x1 x2 (p76.a 37 ((x4 : Int32).toNatClampNeg))))))))) kv9_none) (kv9_ite (kv9_ite (kv9_ite (kv9_ite (kv9_bindv (kv9_st rfl (kr9_f_X12_next N (RS.setI (RS.setA (RS.setA (RS.setA (RS.setA σ 34 (((σ.i 33) : Int32).toNatClampNeg) (σ.i 14)) 37 (((σ.i 33) : Int32).toNatClampNeg) (-1)) 37 (((σ.a 72 ((x1 : Int32).toNatClampNeg)) : Int32).toNatClampNeg) (σ.i 33)) 72 ((x1 : Int32).toNatClampNeg) (σ.i 33)) 33 ((σ.i 33) + 1)))) (fun p59 => (kv9_ite (kv9_ite (kv9_bindv (kv9_st rfl (kr9_f_X12_next N p59)) (fun p63 => (kv9_st rfl (hK18 p63 x1 x2 1)))) (kv9_st rfl (hK18 p59 x1 x2 0))) (kv9_st rfl (hK18 p59 x1 x2 0))))) kv9_none) (kv9_ite (kv9_bindv (kv9_st rfl (kr9_f_X12_next N (RS.setI (RS.setA (RS.setA (RS.setA (RS.setA σ 34 (((σ.i 33) : Int32).toNatClampNeg) (σ.i 14)) 37 (((σ.i 33) : Int32).toNatClampNeg) (-1)) 30 (((σ.a 66 ((x1 : Int32).toNatClampNeg)) : Int32).toNatClampNeg) (σ.i 33)) 72 ((x1 : Int32).toNatClampNeg) (σ.i 33)) 33 ((σ.i 33) + 1)))) (fun p66 => (kv9_ite (kv9_ite (kv9_bindv (kv9_st rfl (kr9_f_X12_next N p66)) (fun p70 => (kv9_st rfl (hK18 p70 x1 x2 1)))) (kv9_st rfl (hK18 p66 x1 x2 0))) (kv9_st rfl (hK18 p66 x1 x2 0))))) kv9_none)) kv9_none) kv9_none)))
theorem kr9_f_X12_catching_82 (N : Nat) (K18 : RS → Int32 → Int32 → Int32 → Option (RS)) (hK18 : ∀ (σ : RS) (w0 : Int32) (w1 : Int32) (w2 : Int32), KV9 σ (K18 σ w0 w1 w2)) : ∀ (n : Nat) (σ : RS) (y0 : Int32) (y1 : Int32) (y2 : Int32), KV9 σ (f_X12_catching_82 N K18 n σ y0 y1 y2)
  | 0, _, _, _, _ => kv9_none
  | n+1, σ, y0, y1, y2 => kr9_b_X12_catching_82 N K18 hK18 (f_X12_catching_82 N K18 n) (fun σ y0 y1 y2 => kr9_f_X12_catching_82 N K18 hK18 n σ y0 y1 y2) σ y0 y1 y2
theorem kr9_b_X12_catching_18 (N : Nat) (K : RS → Int32 → Int32 → Int32 → Option (RS)) (hK : ∀ (σ : RS) (y0 : Int32) (y1 : Int32) (y2 : Int32), KV9 σ (K σ y0 y1 y2)) (σ : RS) (x1 : Int32) (x2 : Int32) (x3 : Int32) : KV9 σ (b_X12_catching_18 N K σ x1 x2 x3) := by
  unfold b_X12_catching_18
  exact (kv9_ite (kv9_st rfl (kr9_f_X12_catching_256 N σ x2)) (kv9_ite (kv9_ite (kv9_bind (kr9_st rfl (kr9_f_X12_can N σ 1)) (fun p82 => (kv9_ite (kv9_st rfl (hK p82.2 x1 x2 x3)) (kv9_ite (kv9_ite (kv9_ite (kv9_st rfl (kr9_f_X12_catching_82 N K hK N p82.2 x1 x2 (p82.2.a 30 (((p82.2.a 66 ((x1 : Int32).toNatClampNeg)) : Int32).toNatClampNeg)))) kv9_none) kv9_none) (kv9_bindv (kv9_st rfl (kr9_f_X12_fail N p82.2 3 (p82.2.i 11))) (fun p88 => (kv9_ite (kv9_ite (kv9_st rfl (kr9_f_X12_catching_82 N K hK N p88 x1 x2 (p88.a 30 (((p88.a 66 ((x1 : Int32).toNatClampNeg)) : Int32).toNatClampNeg)))) kv9_none) kv9_none))))))) (kv9_bind (kr9_st rfl (kr9_f_X12_can N σ 0)) (fun p30 => (kv9_ite (kv9_st rfl (hK p30.2 x1 x2 x3)) (kv9_ite (kv9_ite (kv9_ite (kv9_st rfl (kr9_f_X12_catching_82 N K hK N p30.2 x1 x2 (p30.2.a 30 (((p30.2.a 66 ((x1 : Int32).toNatClampNeg)) : Int32).toNatClampNeg)))) kv9_none) kv9_none) (kv9_bindv (kv9_st rfl (kr9_f_X12_fail N p30.2 3 (p30.2.i 11))) (fun p78 => (kv9_ite (kv9_ite (kv9_st rfl (kr9_f_X12_catching_82 N K hK N p78 x1 x2 (p78.a 30 (((p78.a 66 ((x1 : Int32).toNatClampNeg)) : Int32).toNatClampNeg)))) kv9_none) kv9_none)))))))) (kv9_st rfl (kr9_f_X12_catching_256 N σ x2))))
theorem kr9_f_X12_catching_18 (N : Nat) : ∀ (n : Nat) (σ : RS) (y0 : Int32) (y1 : Int32) (y2 : Int32), KV9 σ (f_X12_catching_18 N n σ y0 y1 y2)
  | 0, _, _, _, _ => kv9_none
  | n+1, σ, y0, y1, y2 => kr9_b_X12_catching_18 N (f_X12_catching_18 N n) (fun σ y0 y1 y2 => kr9_f_X12_catching_18 N n σ y0 y1 y2) σ y0 y1 y2
theorem kr9_f_X12_catching (N : Nat) (σ : RS) (x1 : Int32) : KV9 σ (f_X12_catching N σ x1) := by
  unfold f_X12_catching
  exact (kv9_bindv (kv9_st rfl (kr9_f_X12_next N σ)) (fun p1 => (kv9_bind (kr9_st rfl (kr9_f_X12_open N p1 40)) (fun p3 => (kv9_st rfl (kr9_f_X12_catching_18 N N p3.2 x1 (σ.i 33) 1))))))
theorem kr9_f_X12_endTry (N : Nat) (σ : RS) (x1 : Int32) (x2 : Int32) : KV9 σ (f_X12_endTry N σ x1 x2) := by
  unfold f_X12_endTry
  exact (kv9_ite (kv9_ite (kv9_bindv (kv9_st rfl (kr9_f_X12_resolve N (RS.setA (RS.setI σ 52 ((σ.i 52) - 1)) 32 (((σ.a 66 ((x1 : Int32).toNatClampNeg)) : Int32).toNatClampNeg) (σ.i 20)) (σ.a 66 ((x1 : Int32).toNatClampNeg)) x2)) (fun p3 => (kv9_ite (kv9_bindv (kv9_st rfl (kr9_f_X12_over N p3 0)) (fun p6 => (kv9_some rfl))) (kv9_ite (kv9_bindv (kv9_st rfl (kr9_f_X12_over N p3 1)) (fun p11 => (kv9_some rfl))) (kv9_bindv (kv9_st rfl (kr9_f_X12_over N p3 0)) (fun p9 => (kv9_some rfl))))))) kv9_none) kv9_none)
theorem kr9_f_X12_trying_215 (N : Nat) (σ : RS) (x1 : Int32) : KV9 σ (f_X12_trying_215 N σ x1) := by
  unfold f_X12_trying_215
  exact (kv9_ite (kv9_ite (kv9_bindv (kv9_st rfl (kr9_f_X12_then N (RS.setA (RS.setI (RS.setA (RS.setA σ 57 (((σ.i 56) : Int32).toNatClampNeg) (σ.a 66 ((x1 : Int32).toNatClampNeg))) 58 (((σ.i 56) : Int32).toNatClampNeg) (σ.i 43)) 56 ((σ.i 56) + 1)) 72 ((x1 : Int32).toNatClampNeg) (-1)) 1 3)) (fun p13 => (kv9_some rfl))) kv9_none) kv9_none)
theorem kr9_b_X12_trying_140 (N : Nat) (K : RS → Int32 → Int32 → Option (RS)) (hK : ∀ (σ : RS) (y0 : Int32) (y1 : Int32), KV9 σ (K σ y0 y1)) (σ : RS) (x1 : Int32) (x2 : Int32) : KV9 σ (b_X12_trying_140 N K σ x1 x2) := by
  unfold b_X12_trying_140
  exact (kv9_ite (kv9_st rfl (kr9_f_X12_trying_215 N σ x1)) (kv9_ite (kv9_bindv (kv9_st rfl (kr9_f_X12_next N σ)) (fun p16 => (kv9_ite (kv9_bind (kr9_st rfl (kr9_f_X12_can N p16 1)) (fun p30 => (kv9_ite (kv9_ite (kv9_ite (kv9_st rfl (hK p30.2 x1 1)) (kv9_st rfl (hK p30.2 x1 0))) (kv9_st rfl (hK p30.2 x1 0))) (kv9_bind (kr9_st rfl (kr9_f_X12_emit N p30.2 32 (p30.2.i 14))) (fun p35 => (kv9_bindv (kv9_st rfl (kr9_f_X12_next N p35.2)) (fun p37 => (kv9_ite (kv9_ite (kv9_st rfl (hK p37 x1 1)) (kv9_st rfl (hK p37 x1 0))) (kv9_st rfl (hK p37 x1 0)))))))))) (kv9_bind (kr9_st rfl (kr9_f_X12_can N p16 0)) (fun p19 => (kv9_ite (kv9_ite (kv9_ite (kv9_st rfl (hK p19.2 x1 1)) (kv9_st rfl (hK p19.2 x1 0))) (kv9_st rfl (hK p19.2 x1 0))) (kv9_bind (kr9_st rfl (kr9_f_X12_emit N p19.2 32 (p19.2.i 14))) (fun p24 => (kv9_bindv (kv9_st rfl (kr9_f_X12_next N p24.2)) (fun p26 => (kv9_ite (kv9_ite (kv9_st rfl (hK p26 x1 1)) (kv9_st rfl (hK p26 x1 0))) (kv9_st rfl (hK p26 x1 0))))))))))))) (kv9_st rfl (kr9_f_X12_trying_215 N σ x1))))
theorem kr9_f_X12_trying_140 (N : Nat) : ∀ (n : Nat) (σ : RS) (y0 : Int32) (y1 : Int32), KV9 σ (f_X12_trying_140 N n σ y0 y1)
  | 0, _, _, _ => kv9_none
  | n+1, σ, y0, y1 => kr9_b_X12_trying_140 N (f_X12_trying_140 N n) (fun σ y0 y1 => kr9_f_X12_trying_140 N n σ y0 y1) σ y0 y1
theorem kr9_f_X12_trying_124 (N : Nat) (σ : RS) (x1 : Int32) : KV9 σ (f_X12_trying_124 N σ x1) := by
  unfold f_X12_trying_124
  exact (kv9_ite (kv9_st rfl (kr9_f_X12_trying_140 N N σ x1 1)) (kv9_st rfl (kr9_f_X12_trying_140 N N σ x1 0)))
theorem kr9_f_X12_trying_287 (N : Nat) (σ : RS) (x1 : Int32) : KV9 σ (f_X12_trying_287 N σ x1) := by
  unfold f_X12_trying_287
  exact (kv9_ite (kv9_bind (kr9_st rfl (kr9_f_X12_emit N σ 33 (σ.a 66 ((x1 : Int32).toNatClampNeg)))) (fun p44 => (kv9_some rfl))) kv9_none)
theorem kr9_f_X12_trying_417 (N : Nat) (σ : RS) (x1 : Int32) : KV9 σ (f_X12_trying_417 N σ x1) := by
  unfold f_X12_trying_417
  exact (kv9_bindv (kv9_st rfl (kr9_f_X12_endTry N (RS.setI σ 56 ((σ.i 56) - 1)) x1 1)) (fun p53 => (kv9_some rfl)))
theorem kr9_f_X12_trying_464 (N : Nat) (σ : RS) (x1 : Int32) : KV9 σ (f_X12_trying_464 N σ x1) := by
  unfold f_X12_trying_464
  exact (kv9_ite (kv9_bind (kr9_st rfl (kr9_f_X12_emit N σ 34 (σ.a 66 ((x1 : Int32).toNatClampNeg)))) (fun p72 => (kv9_some rfl))) kv9_none)
theorem kr9_f_X12_trying (N : Nat) (σ : RS) (x1 : Int32) : KV9 σ (f_X12_trying N σ x1) := by
  unfold f_X12_trying
  exact (kv9_ite (kv9_ite (kv9_bindv (kv9_st rfl (kr9_f_X12_next N σ)) (fun p3 => (kv9_ite (kv9_bind (kr9_st rfl (kr9_f_X12_emit N (RS.setI (RS.setA (RS.setA (RS.setA p3 66 ((x1 : Int32).toNatClampNeg) (p3.i 29)) 30 (((p3.i 29) : Int32).toNatClampNeg) (-1)) 31 (((p3.i 29) : Int32).toNatClampNeg) (-1)) 29 ((p3.i 29) + 1)) 31 ((upd (p3.a 66) ((x1 : Int32).toNatClampNeg) (p3.i 29)) ((x1 : Int32).toNatClampNeg)))) (fun p6 => (kv9_ite (kv9_st rfl (kr9_f_X12_trying_124 N (RS.setA (RS.setI p6.2 52 ((p6.2.i 52) + 1)) 67 ((x1 : Int32).toNatClampNeg) 1) x1)) (kv9_st rfl (kr9_f_X12_trying_124 N (RS.setA (RS.setI p6.2 52 ((p6.2.i 52) + 1)) 67 ((x1 : Int32).toNatClampNeg) 0) x1))))) kv9_none))) (kv9_ite (kv9_ite (kv9_st rfl (kr9_f_X12_trying_287 N (RS.setA σ 68 ((x1 : Int32).toNatClampNeg) 0) x1)) (kv9_st rfl (kr9_f_X12_trying_287 N (RS.setA σ 68 ((x1 : Int32).toNatClampNeg) 1) x1))) (kv9_ite (kv9_ite (kv9_bindv (kv9_st rfl (kr9_f_X12_catching N (RS.setA σ 71 ((x1 : Int32).toNatClampNeg) (σ.i 38)) x1)) (fun p67 => (kv9_some rfl))) (kv9_ite (kv9_bindv (kv9_st rfl (kr9_f_X12_next N (RS.setI σ 56 ((σ.i 56) - 1)))) (fun p62 => (kv9_ite (kv9_bindv (kv9_st rfl (kr9_f_X12_then N (RS.setA p62 31 (((p62.a 66 ((x1 : Int32).toNatClampNeg)) : Int32).toNatClampNeg) (p62.i 20)) 4 3)) (fun p65 => (kv9_some rfl))) kv9_none))) (kv9_ite (kv9_bind (kr9_st rfl (kr9_f_X12_can N σ 1)) (fun p50 => (kv9_ite (kv9_some rfl) (kv9_st rfl (kr9_f_X12_trying_417 N p50.2 x1))))) (kv9_ite (kv9_bind (kr9_st rfl (kr9_f_X12_can N σ 0)) (fun p56 => (kv9_ite (kv9_some rfl) (kv9_st rfl (kr9_f_X12_trying_417 N p56.2 x1))))) (kv9_bind (kr9_st rfl (kr9_f_X12_can N σ 1)) (fun p59 => (kv9_ite (kv9_some rfl) (kv9_st rfl (kr9_f_X12_trying_417 N p59.2 x1))))))))) (kv9_ite (kv9_ite (kv9_ite (kv9_st rfl (kr9_f_X12_trying_464 N (RS.setA σ 68 ((x1 : Int32).toNatClampNeg) 1) x1)) (kv9_st rfl (kr9_f_X12_trying_464 N (RS.setA σ 68 ((x1 : Int32).toNatClampNeg) 0) x1))) (kv9_st rfl (kr9_f_X12_trying_464 N (RS.setA σ 68 ((x1 : Int32).toNatClampNeg) 1) x1))) (kv9_bind (kr9_st rfl (kr9_f_X12_emit N σ 35 (σ.a 66 ((x1 : Int32).toNatClampNeg)))) (fun p75 => (kv9_bindv (kv9_st rfl (kr9_f_X12_endTry N p75.2 x1 (p75.2.i 75))) (fun p77 => (kv9_some rfl))))))))) kv9_none)
theorem kr9_f_X12_sums_39 (N : Nat) (σ : RS) (x1 : Int32) (x2 : Int32) (x3 : Int32) : KV9 σ (f_X12_sums_39 N σ x1 x2 x3) := by
  unfold f_X12_sums_39
  exact (kv9_ite (kv9_some rfl) (kv9_ite (kv9_bindv (kv9_st rfl (kr9_f_X12_next N (RS.setA σ 66 ((x1 : Int32).toNatClampNeg) (σ.i 10)))) (fun p6 => (kv9_bindv (kv9_st rfl (kr9_f_X12_then N p6 2 x2)) (fun p8 => (kv9_some rfl))))) kv9_none))
theorem kr9_f_X12_sums (N : Nat) (σ : RS) (x1 : Int32) (x2 : Int32) (x3 : Int32) : KV9 σ (f_X12_sums N σ x1 x2 x3) := by
  unfold f_X12_sums
  exact (kv9_ite (kv9_ite (kv9_bindv (kv9_st rfl (kr9_f_X12_then N σ 1 x2)) (fun p12 => (kv9_some rfl))) (kv9_ite (kv9_bind (kr9_st rfl (kr9_f_X12_emit N σ 8 (σ.a 66 ((x1 : Int32).toNatClampNeg)))) (fun p10 => (kv9_st rfl (kr9_f_X12_sums_39 N p10.2 x1 x2 x3)))) (kv9_st rfl (kr9_f_X12_sums_39 N σ x1 x2 x3)))) kv9_none)
theorem kr9_f_X12_factor_215 (N : Nat) (σ : RS) : KV9 σ (f_X12_factor_215 N σ) := by
  unfold f_X12_factor_215
  exact (kv9_bindv (kv9_st rfl (kr9_f_X12_next N σ)) (fun p31 => (kv9_some rfl)))
theorem kr9_f_X12_factor_124 (N : Nat) (σ : RS) (x1 : Int32) : KV9 σ (f_X12_factor_124 N σ x1) := by
  unfold f_X12_factor_124
  exact (kv9_ite (kv9_bind (kr9_st rfl (kr9_f_X12_emit N σ 2 (σ.i 14))) (fun p37 => (kv9_bindv (kv9_st rfl (kr9_f_X12_next N p37.2)) (fun p39 => (kv9_some rfl))))) (kv9_ite (kv9_bind (kr9_st rfl (kr9_f_X12_seenAs N σ σ.l)) (fun p24 => (kv9_ite (kv9_ite (kv9_ite (kv9_bind (kr9_st rfl (kr9_f_X12_emit N p24.2 3 (p24.2.a 40 ((p24.1 : Int32).toNatClampNeg)))) (fun p29 => (kv9_st rfl (kr9_f_X12_factor_215 N p29.2)))) (kv9_bind (kr9_st rfl (kr9_f_X12_emit N p24.2 4 (p24.2.a 40 ((p24.1 : Int32).toNatClampNeg)))) (fun p33 => (kv9_st rfl (kr9_f_X12_factor_215 N p33.2))))) kv9_none) (kv9_bindv (kv9_st rfl (kr9_f_X12_fail N p24.2 3 (p24.2.i 11))) (fun p35 => (kv9_some rfl)))))) (kv9_ite (kv9_bind (kr9_st rfl (kr9_f_X12_opens N σ)) (fun p17 => (kv9_ite (kv9_some rfl) (kv9_bindv (kv9_st rfl (kr9_f_X12_next N p17.2)) (fun p20 => (kv9_bindv (kv9_st rfl (kr9_f_X12_then N p20 1 18)) (fun p22 => (kv9_some rfl)))))))) (kv9_ite (kv9_bind (kr9_st rfl (kr9_f_X12_open N σ 40)) (fun p13 => (kv9_bindv (kv9_st rfl (kr9_f_X12_then N p13.2 2 16)) (fun p15 => (kv9_some rfl))))) (kv9_ite (kv9_some rfl) kv9_none)))))
theorem kr9_f_X12_factor (N : Nat) (σ : RS) (x1 : Int32) : KV9 σ (f_X12_factor N σ x1) := by
  unfold f_X12_factor
  exact (kv9_ite (kv9_ite (kv9_bind (kr9_st rfl (kr9_f_X12_emit N (RS.setI σ 19 ((σ.i 19) - 1)) 7 0)) (fun p62 => (kv9_some rfl))) (kv9_ite (kv9_bind (kr9_st rfl (kr9_f_X12_shut N σ 41)) (fun p60 => (kv9_some rfl))) (kv9_ite (kv9_bind (kr9_st rfl (kr9_f_X12_can N σ 1)) (fun p5 => (kv9_ite (kv9_some rfl) (kv9_st rfl (kr9_f_X12_factor_124 N p5.2 x1))))) (kv9_ite (kv9_bind (kr9_st rfl (kr9_f_X12_can N σ 1)) (fun p42 => (kv9_ite (kv9_some rfl) (kv9_st rfl (kr9_f_X12_factor_124 N p42.2 x1))))) (kv9_ite (kv9_bind (kr9_st rfl (kr9_f_X12_can N σ 1)) (fun p46 => (kv9_ite (kv9_some rfl) (kv9_st rfl (kr9_f_X12_factor_124 N p46.2 x1))))) (kv9_ite (kv9_bind (kr9_st rfl (kr9_f_X12_can N σ 1)) (fun p50 => (kv9_ite (kv9_some rfl) (kv9_st rfl (kr9_f_X12_factor_124 N p50.2 x1))))) (kv9_ite (kv9_bind (kr9_st rfl (kr9_f_X12_can N σ 1)) (fun p57 => (kv9_ite (kv9_some rfl) (kv9_st rfl (kr9_f_X12_factor_124 N p57.2 x1))))) (kv9_bind (kr9_st rfl (kr9_f_X12_can N σ 0)) (fun p54 => (kv9_ite (kv9_some rfl) (kv9_st rfl (kr9_f_X12_factor_124 N p54.2 x1)))))))))))) kv9_none)
theorem kr9_f_X12_arms_250 (N : Nat) (σ : RS) (x1 : Int32) : KV9 σ (f_X12_arms_250 N σ x1) := by
  unfold f_X12_arms_250
  exact (kv9_bind (kr9_st rfl (kr9_f_X12_shut N σ 125)) (fun p25 => (kv9_ite (kv9_ite (kv9_some rfl) kv9_none) kv9_none)))
theorem kr9_f_X12_arms_333 (N : Nat) (σ : RS) : KV9 σ (f_X12_arms_333 N σ) := by
  unfold f_X12_arms_333
  exact (kv9_ite (kv9_bindv (kv9_st rfl (kr9_f_X12_next N σ)) (fun p51 => (kv9_some rfl))) (kv9_some rfl))
theorem kr9_f_X12_arms_400 (N : Nat) (σ : RS) : KV9 σ (f_X12_arms_400 N σ) := by
  unfold f_X12_arms_400
  exact (kv9_bindv (kv9_st rfl (kr9_f_X12_then N σ 7 16)) (fun p62 => (kv9_some rfl)))
theorem kr9_f_X12_arms_435 (N : Nat) (σ : RS) (x1 : Int32) : KV9 σ (f_X12_arms_435 N σ x1) := by
  unfold f_X12_arms_435
  exact (kv9_bind (kr9_st rfl (kr9_f_X12_shut N σ 125)) (fun p71 => (kv9_ite (kv9_some rfl) kv9_none)))
theorem kr9_f_X12_arms (N : Nat) (σ : RS) (x1 : Int32) : KV9 σ (f_X12_arms N σ x1) := by
  unfold f_X12_arms
  exact (kv9_ite (kv9_ite (kv9_bindv (kv9_st rfl (kr9_f_X12_next N σ)) (fun p3 => (kv9_bind (kr9_st rfl (kr9_f_X12_open N p3 40)) (fun p5 => (kv9_bindv (kv9_st rfl (kr9_f_X12_then N p5.2 1 16)) (fun p7 => (kv9_some rfl))))))) (kv9_ite (kv9_bind (kr9_st rfl (kr9_f_X12_shut N σ 41)) (fun p10 => (kv9_bind (kr9_st rfl (kr9_f_X12_emit N p10.2 29 (-1))) (fun p12 => (kv9_bind (kr9_st rfl (kr9_f_X12_goal N (RS.setI (RS.setA (RS.setA (RS.setA p12.2 66 ((x1 : Int32).toNatClampNeg) p12.1) 67 ((x1 : Int32).toNatClampNeg) (-1)) 68 ((x1 : Int32).toNatClampNeg) 0) 52 ((p12.2.i 52) + 1)) 3 0)) (fun p14 => (kv9_bind (kr9_st rfl (kr9_f_X12_open N p14.2 123)) (fun p16 => (kv9_some rfl))))))))) (kv9_ite (kv9_ite (kv9_bindv (kv9_st rfl (kr9_f_X12_next N σ)) (fun p43 => (kv9_some rfl))) (kv9_ite (kv9_ite (kv9_bindv (kv9_st rfl (kr9_f_X12_fail N σ 4 (σ.i 11))) (fun p41 => (kv9_some rfl))) (kv9_bindv (kv9_st rfl (kr9_f_X12_entry N (RS.setA σ 68 ((x1 : Int32).toNatClampNeg) 1) x1 0 1)) (fun p37 => (kv9_bindv (kv9_st rfl (kr9_f_X12_next N p37)) (fun p39 => (kv9_some rfl)))))) (kv9_ite (kv9_ite (kv9_bind (kr9_st rfl (kr9_f_X12_can N σ 1)) (fun p33 => (kv9_ite (kv9_some rfl) (kv9_st rfl (kr9_f_X12_arms_250 N p33.2 x1))))) (kv9_bind (kr9_st rfl (kr9_f_X12_can N σ 0)) (fun p30 => (kv9_ite (kv9_some rfl) (kv9_st rfl (kr9_f_X12_arms_250 N p30.2 x1)))))) (kv9_bind (kr9_st rfl (kr9_f_X12_can N σ 0)) (fun p22 => (kv9_ite (kv9_some rfl) (kv9_st rfl (kr9_f_X12_arms_250 N p22.2 x1)))))))) (kv9_ite (kv9_bind (kr9_st rfl (kr9_f_X12_caseNumber N σ x1)) (fun p46 => (kv9_ite (kv9_some rfl) (kv9_ite (kv9_st rfl (kr9_f_X12_arms_333 N (RS.setA p46.2 65 ((x1 : Int32).toNatClampNeg) 3))) (kv9_st rfl (kr9_f_X12_arms_333 N (RS.setA p46.2 65 ((x1 : Int32).toNatClampNeg) 5))))))) (kv9_ite (kv9_bind (kr9_st rfl (kr9_f_X12_need N σ 59)) (fun p54 => (kv9_bind (kr9_st rfl (kr9_f_X12_emit N p54.2 30 0)) (fun p56 => (kv9_some rfl))))) (kv9_ite (kv9_bind (kr9_st rfl (kr9_f_X12_need N σ 306)) (fun p59 => (kv9_ite (kv9_ite (kv9_bind (kr9_st rfl (kr9_f_X12_open N p59.2 123)) (fun p65 => (kv9_bindv (kv9_st rfl (kr9_f_X12_then N (RS.setA p65.2 71 ((x1 : Int32).toNatClampNeg) (p65.2.i 38)) 6 1)) (fun p67 => (kv9_some rfl))))) (kv9_st rfl (kr9_f_X12_arms_400 N p59.2))) (kv9_st rfl (kr9_f_X12_arms_400 N p59.2))))) (kv9_ite (kv9_ite (kv9_st rfl (kr9_f_X12_arms_435 N σ x1)) (kv9_ite (kv9_bindv (kv9_st rfl (kr9_f_X12_note N σ (σ.i 11))) (fun p75 => (kv9_st rfl (kr9_f_X12_arms_435 N p75 x1)))) (kv9_st rfl (kr9_f_X12_arms_435 N σ x1)))) (kv9_bind (kr9_st rfl (kr9_f_X12_need N σ 59)) (fun p77 => (kv9_bind (kr9_st rfl (kr9_f_X12_emit N p77.2 30 0)) (fun p79 => (kv9_some rfl)))))))))))) kv9_none)
theorem kr9_f_X12_both_41 (N : Nat) (σ : RS) (x1 : Int32) (x2 : Int32) (x3 : Int32) (x4 : Int32) : KV9 σ (f_X12_both_41 N σ x1 x2 x3 x4) := by
  unfold f_X12_both_41
  exact (kv9_ite (kv9_bindv (kv9_st rfl (kr9_f_X12_next N σ)) (fun p5 => (kv9_bind (kr9_st rfl (kr9_f_X12_emit N p5 x4 0)) (fun p7 => (kv9_ite (kv9_bindv (kv9_st rfl (kr9_f_X12_then N (RS.setA p7.2 66 ((x1 : Int32).toNatClampNeg) p7.1) 2 x2)) (fun p10 => (kv9_some rfl))) kv9_none))))) (kv9_some rfl))
theorem kr9_f_X12_both (N : Nat) (σ : RS) (x1 : Int32) (x2 : Int32) (x3 : Int32) (x4 : Int32) : KV9 σ (f_X12_both N σ x1 x2 x3 x4) := by
  unfold f_X12_both
  exact (kv9_ite (kv9_ite (kv9_bindv (kv9_st rfl (kr9_f_X12_then N σ 1 x2)) (fun p13 => (kv9_some rfl))) (kv9_ite (kv9_ite (kv9_st rfl (kr9_f_X12_both_41 N (RS.setA σ 22 (((σ.a 66 ((x1 : Int32).toNatClampNeg)) : Int32).toNatClampNeg) (σ.i 20)) x1 x2 x3 x4)) kv9_none) (kv9_st rfl (kr9_f_X12_both_41 N σ x1 x2 x3 x4)))) kv9_none)
theorem kr9_f_X12_one_133 (N : Nat) (σ : RS) : KV9 σ (f_X12_one_133 N σ) := by
  unfold f_X12_one_133
  exact (kv9_bindv (kv9_st rfl (kr9_f_X12_next N σ)) (fun p9 => (kv9_some rfl)))
theorem kr9_f_X12_one_112 (N : Nat) (σ : RS) : KV9 σ (f_X12_one_112 N σ) := by
  unfold f_X12_one_112
  exact (kv9_ite (kv9_bind (kr9_st rfl (kr9_f_X12_emit N σ 2 1)) (fun p11 => (kv9_st rfl (kr9_f_X12_one_133 N p11.2)))) (kv9_bind (kr9_st rfl (kr9_f_X12_emit N σ 2 0)) (fun p7 => (kv9_st rfl (kr9_f_X12_one_133 N p7.2)))))
theorem kr9_f_X12_one_281 (N : Nat) (σ : RS) (x1 : Int32) : KV9 σ (f_X12_one_281 N σ x1) := by
  unfold f_X12_one_281
  exact (kv9_ite (kv9_bindv (kv9_st rfl (kr9_f_X12_next N (RS.setA σ 66 ((x1 : Int32).toNatClampNeg) (σ.i 10)))) (fun p39 => (kv9_bindv (kv9_st rfl (kr9_f_X12_then N p39 4 16)) (fun p41 => (kv9_some rfl))))) kv9_none)
theorem kr9_f_X12_one (N : Nat) (σ : RS) (x1 : Int32) : KV9 σ (f_X12_one N σ x1) := by
  unfold f_X12_one
  exact (kv9_ite (kv9_ite (kv9_ite (kv9_bind (kr9_st rfl (kr9_f_X12_opens N σ)) (fun p20 => (kv9_ite (kv9_some rfl) (kv9_bindv (kv9_st rfl (kr9_f_X12_next N p20.2)) (fun p23 => (kv9_bindv (kv9_st rfl (kr9_f_X12_then N p23 1 22)) (fun p25 => (kv9_some rfl)))))))) (kv9_ite (kv9_bind (kr9_st rfl (kr9_f_X12_open N σ 91)) (fun p16 => (kv9_bindv (kv9_st rfl (kr9_f_X12_then N p16.2 2 20)) (fun p18 => (kv9_some rfl))))) (kv9_ite (kv9_st rfl (kr9_f_X12_one_112 N σ)) (kv9_ite (kv9_st rfl (kr9_f_X12_one_112 N σ)) (kv9_bindv (kv9_st rfl (kr9_f_X12_then N σ 3 16)) (fun p14 => (kv9_some rfl))))))) (kv9_ite (kv9_bind (kr9_st rfl (kr9_f_X12_emit N (RS.setI σ 19 ((σ.i 19) - 1)) 10 0)) (fun p28 => (kv9_some rfl))) (kv9_ite (kv9_bind (kr9_st rfl (kr9_f_X12_shut N σ 93)) (fun p31 => (kv9_some rfl))) (kv9_ite (kv9_ite (kv9_bind (kr9_st rfl (kr9_f_X12_can N σ 1)) (fun p35 => (kv9_ite (kv9_some rfl) (kv9_st rfl (kr9_f_X12_one_281 N p35.2 x1))))) (kv9_ite (kv9_bind (kr9_st rfl (kr9_f_X12_can N σ 1)) (fun p44 => (kv9_ite (kv9_some rfl) (kv9_st rfl (kr9_f_X12_one_281 N p44.2 x1))))) (kv9_ite (kv9_bind (kr9_st rfl (kr9_f_X12_can N σ 1)) (fun p48 => (kv9_ite (kv9_some rfl) (kv9_st rfl (kr9_f_X12_one_281 N p48.2 x1))))) (kv9_ite (kv9_bind (kr9_st rfl (kr9_f_X12_can N σ 1)) (fun p52 => (kv9_ite (kv9_some rfl) (kv9_st rfl (kr9_f_X12_one_281 N p52.2 x1))))) (kv9_ite (kv9_bind (kr9_st rfl (kr9_f_X12_can N σ 1)) (fun p56 => (kv9_ite (kv9_some rfl) (kv9_st rfl (kr9_f_X12_one_281 N p56.2 x1))))) (kv9_ite (kv9_bind (kr9_st rfl (kr9_f_X12_can N σ 1)) (fun p63 => (kv9_ite (kv9_some rfl) (kv9_st rfl (kr9_f_X12_one_281 N p63.2 x1))))) (kv9_bind (kr9_st rfl (kr9_f_X12_can N σ 0)) (fun p60 => (kv9_ite (kv9_some rfl) (kv9_st rfl (kr9_f_X12_one_281 N p60.2 x1))))))))))) (kv9_bind (kr9_st rfl (kr9_f_X12_emit N σ 9 (σ.a 66 ((x1 : Int32).toNatClampNeg)))) (fun p66 => (kv9_some rfl))))))) kv9_none)
theorem kr9_f_X12_thing_74 (N : Nat) (σ : RS) : KV9 σ (f_X12_thing_74 N σ) := by
  unfold f_X12_thing_74
  exact (kv9_some rfl)
theorem kr9_f_X12_thing_116 (N : Nat) (σ : RS) : KV9 σ (f_X12_thing_116 N σ) := by
  unfold f_X12_thing_116
  exact (kv9_some rfl)
theorem kr9_f_X12_thing (N : Nat) (σ : RS) (x1 : Int32) : KV9 σ (f_X12_thing N σ x1) := by
  unfold f_X12_thing
  exact (kv9_ite (kv9_ite (kv9_ite (kv9_bindv (kv9_st rfl (kr9_f_X12_sums N σ x1 17 1)) (fun p4 => (kv9_st rfl (kr9_f_X12_thing_74 N p4)))) (kv9_ite (kv9_bindv (kv9_st rfl (kr9_f_X12_sums N σ x1 17 1)) (fun p9 => (kv9_st rfl (kr9_f_X12_thing_74 N p9)))) (kv9_bindv (kv9_st rfl (kr9_f_X12_sums N σ x1 17 0)) (fun p7 => (kv9_st rfl (kr9_f_X12_thing_74 N p7)))))) (kv9_ite (kv9_ite (kv9_bindv (kv9_st rfl (kr9_f_X12_sums N σ x1 18 1)) (fun p13 => (kv9_st rfl (kr9_f_X12_thing_116 N p13)))) (kv9_ite (kv9_bindv (kv9_st rfl (kr9_f_X12_sums N σ x1 18 1)) (fun p16 => (kv9_st rfl (kr9_f_X12_thing_116 N p16)))) (kv9_ite (kv9_bindv (kv9_st rfl (kr9_f_X12_sums N σ x1 18 1)) (fun p21 => (kv9_st rfl (kr9_f_X12_thing_116 N p21)))) (kv9_bindv (kv9_st rfl (kr9_f_X12_sums N σ x1 18 0)) (fun p19 => (kv9_st rfl (kr9_f_X12_thing_116 N p19))))))) (kv9_ite (kv9_bindv (kv9_st rfl (kr9_f_X12_factor N σ x1)) (fun p24 => (kv9_some rfl))) (kv9_ite (kv9_bindv (kv9_st rfl (kr9_f_X12_arms N σ x1)) (fun p27 => (kv9_some rfl))) (kv9_ite (kv9_bindv (kv9_st rfl (kr9_f_X12_both N σ x1 21 305 11)) (fun p30 => (kv9_some rfl))) (kv9_ite (kv9_bindv (kv9_st rfl (kr9_f_X12_both N σ x1 22 304 12)) (fun p33 => (kv9_some rfl))) (kv9_bindv (kv9_st rfl (kr9_f_X12_one N σ x1)) (fun p35 => (kv9_some rfl))))))))) kv9_none)
theorem kr9_b_X12_parse_10 (N : Nat) (K : RS → Option (RS)) (hK : ∀ (σ : RS), KV9 σ (K σ)) (σ : RS) : KV9 σ (b_X12_parse_10 N K σ) := by
  unfold b_X12_parse_10
  exact (kv9_ite (kv9_some rfl) (kv9_ite (kv9_ite (kv9_ite (kv9_bindv (kv9_st rfl (kr9_f_X12_list N σ (σ.i 63))) (fun p7 => (kv9_st rfl (hK p7)))) (kv9_ite (kv9_bindv (kv9_st rfl (kr9_f_X12_stat N σ (σ.i 63))) (fun p10 => (kv9_st rfl (hK p10)))) (kv9_ite (kv9_bindv (kv9_st rfl (kr9_f_X12_block N σ (σ.i 63))) (fun p13 => (kv9_st rfl (hK p13)))) (kv9_ite (kv9_bindv (kv9_st rfl (kr9_f_X12_tell N σ (σ.i 63))) (fun p16 => (kv9_st rfl (hK p16)))) (kv9_ite (kv9_bindv (kv9_st rfl (kr9_f_X12_named N σ (σ.i 63))) (fun p19 => (kv9_st rfl (hK p19)))) (kv9_ite (kv9_bindv (kv9_st rfl (kr9_f_X12_ending N σ (σ.i 63))) (fun p22 => (kv9_st rfl (hK p22)))) (kv9_ite (kv9_bindv (kv9_st rfl (kr9_f_X12_throwing N σ (σ.i 63))) (fun p25 => (kv9_st rfl (hK p25)))) (kv9_ite (kv9_bindv (kv9_st rfl (kr9_f_X12_asserted N σ (σ.i 63))) (fun p28 => (kv9_st rfl (hK p28)))) (kv9_ite (kv9_bindv (kv9_st rfl (kr9_f_X12_branch N σ (σ.i 63))) (fun p31 => (kv9_st rfl (hK p31)))) (kv9_ite (kv9_bindv (kv9_st rfl (kr9_f_X12_whiles N σ (σ.i 63))) (fun p34 => (kv9_st rfl (hK p34)))) (kv9_ite (kv9_bindv (kv9_st rfl (kr9_f_X12_repeats N σ (σ.i 63))) (fun p37 => (kv9_st rfl (hK p37)))) (kv9_ite (kv9_bindv (kv9_st rfl (kr9_f_X12_fors N σ (σ.i 63))) (fun p40 => (kv9_st rfl (hK p40)))) (kv9_ite (kv9_bindv (kv9_st rfl (kr9_f_X12_lock N σ (σ.i 63))) (fun p43 => (kv9_st rfl (hK p43)))) (kv9_ite (kv9_bindv (kv9_st rfl (kr9_f_X12_groups N σ (σ.i 63))) (fun p46 => (kv9_st rfl (hK p46)))) (kv9_ite (kv9_bindv (kv9_st rfl (kr9_f_X12_trying N σ (σ.i 63))) (fun p49 => (kv9_st rfl (hK p49)))) (kv9_bindv (kv9_st rfl (kr9_f_X12_thing N σ (σ.i 63))) (fun p51 => (kv9_st rfl (hK p51))))))))))))))))))) kv9_none) (kv9_some rfl)))
theorem kr9_f_X12_parse_10 (N : Nat) : ∀ (n : Nat) (σ : RS), KV9 σ (f_X12_parse_10 N n σ )
  | 0, _ => kv9_none
  | n+1, σ => kr9_b_X12_parse_10 N (f_X12_parse_10 N n) (fun σ => kr9_f_X12_parse_10 N n σ) σ
theorem kr9_f_X12_parse (N : Nat) (σ : RS) : KV9 σ (f_X12_parse N σ) := by
  unfold f_X12_parse
  exact (kv9_bindv (kv9_st rfl (kr9_f_X12_push N (RS.setI σ 63 (-1)) 1)) (fun p1 => (kv9_st rfl (kr9_f_X12_parse_10 N N p1))))
theorem kr9_f_X12_fault (N : Nat) (σ : RS) : KR9 σ (f_X12_fault N σ) := by
  unfold f_X12_fault
  exact (kr9_some rfl)
theorem kr9_f_X12_program (N : Nat) (σ : RS) (x1 : Int32) : KR9 σ (f_X12_program N σ x1) := by
  unfold f_X12_program
  exact (kr9_bind (kr9_st rfl (kr9_f_X12_in N (RS.setI σ 0 0) x1 0 3)) (fun p1 => (kr9_ite (kr9_some rfl) (kr9_ite (kr9_some rfl) (kr9_ite (kr9_some rfl) (kr9_ite (kr9_ite (kr9_some rfl) (kr9_some rfl)) (kr9_ite (kr9_some rfl) (kr9_some rfl))))))))
theorem kr9_f_X12_row (N : Nat) (σ : RS) (x1 : Int32) (x2 : Int32) : KV9 σ (f_X12_row N σ x1 x2) := by
  unfold f_X12_row
  exact (kv9_ite (kv9_some rfl) (kv9_ite (kv9_some rfl) kv9_none))
theorem kr9_f_X12_record (N : Nat) (σ : RS) (x1 : Int32) (x2 : Int32) (x3 : Int32) (x4 : Int32) : KR9 σ (f_X12_record N σ x1 x2 x3 x4) := by
  unfold f_X12_record
  exact (kr9_ite (kr9_some rfl) kr9_none)
theorem kr9_f_X12_put (N : Nat) (σ : RS) (x1 : Int32) : KV9 σ (f_X12_put N σ x1) := by
  unfold f_X12_put
  exact (kv9_ite (kv9_some rfl) kv9_none)
theorem kr9_f_X12_take (N : Nat) (σ : RS) : KR9 σ (f_X12_take N σ) := by
  unfold f_X12_take
  exact (kr9_ite (kr9_some rfl) kr9_none)
theorem kr9_f_X12_raise_24 (N : Nat) (σ : RS) (x1 : Int32) (x2 : Int32) : KV9 σ (f_X12_raise_24 N σ x1 x2) := by
  unfold f_X12_raise_24
  exact (kv9_ite (kv9_some rfl) kv9_none)
theorem kr9_f_X12_raise (N : Nat) (σ : RS) (x1 : Int32) (x2 : Int32) : KV9 σ (f_X12_raise N σ x1 x2) := by
  unfold f_X12_raise
  exact (kv9_ite (kv9_st rfl (kr9_f_X12_raise_24 N (RS.setI σ 114 3199) x1 x2)) (kv9_st rfl (kr9_f_X12_raise_24 N (RS.setI σ 114 (σ.i 85)) x1 x2)))
theorem kr9_b_X12_closeAll_0 (N : Nat) (K : RS → Int32 → Option (RS)) (hK : ∀ (σ : RS) (y0 : Int32), KV9 σ (K σ y0)) (σ : RS) (x1 : Int32) : KV9 σ (b_X12_closeAll_0 N K σ x1) := by
  unfold b_X12_closeAll_0
  exact (kv9_ite (kv9_ite (kv9_some rfl) (kv9_ite (kv9_bindv (kv9_st rfl (kr9_f_X12_row N (RS.setI σ 95 ((σ.i 95) - 1)) 2 (σ.a 96 ((((σ.i 95) - 1) : Int32).toNatClampNeg)))) (fun p4 => (kv9_ite (kv9_ite (kv9_st rfl (hK p4 x1)) (kv9_ite (kv9_ite (kv9_ite (kv9_st rfl (hK p4 x1)) (kv9_ite (kv9_st rfl (hK (RS.setA (RS.setA (RS.setA p4 89 ((((8 * (p4.i 114)) + (p4.a 88 (((p4.i 114) : Int32).toNatClampNeg))) : Int32).toNatClampNeg) ((p4.a 7 (((σ.a 96 ((((σ.i 95) - 1) : Int32).toNatClampNeg)) : Int32).toNatClampNeg)) - 1)) 90 ((((8 * (p4.i 114)) + (p4.a 88 (((p4.i 114) : Int32).toNatClampNeg))) : Int32).toNatClampNeg) (σ.a 96 ((((σ.i 95) - 1) : Int32).toNatClampNeg))) 88 (((p4.i 114) : Int32).toNatClampNeg) ((p4.a 88 (((p4.i 114) : Int32).toNatClampNeg)) + 1)) x1)) kv9_none)) kv9_none) (kv9_bindv (kv9_st rfl (kr9_f_X12_raise N p4 ((p4.a 7 (((σ.a 96 ((((σ.i 95) - 1) : Int32).toNatClampNeg)) : Int32).toNatClampNeg)) - 1) (σ.a 96 ((((σ.i 95) - 1) : Int32).toNatClampNeg)))) (fun p14 => (kv9_st rfl (hK p14 x1)))))) kv9_none))) kv9_none)) kv9_none)
theorem kr9_f_X12_closeAll_0 (N : Nat) : ∀ (n : Nat) (σ : RS) (y0 : Int32), KV9 σ (f_X12_closeAll_0 N n σ y0)
  | 0, _, _ => kv9_none
  | n+1, σ, y0 => kr9_b_X12_closeAll_0 N (f_X12_closeAll_0 N n) (fun σ y0 => kr9_f_X12_closeAll_0 N n σ y0) σ y0
theorem kr9_f_X12_closeAll (N : Nat) (σ : RS) (x1 : Int32) : KV9 σ (f_X12_closeAll N σ x1) := by
  unfold f_X12_closeAll
  exact (kv9_st rfl (kr9_f_X12_closeAll_0 N N σ x1))
theorem kr9_f_X12_finals (N : Nat) (σ : RS) (x1 : Int32) : KR9 σ (f_X12_finals N σ x1) := by
  unfold f_X12_finals
  exact (kr9_ite (kr9_ite (kr9_ite (kr9_some rfl) (kr9_some rfl)) kr9_none) kr9_none)
theorem kr9_b_X12_isCaught_12 (N : Nat) (K : RS → Int32 → Int32 → Option (Int32 × RS)) (hK : ∀ (σ : RS) (y0 : Int32) (y1 : Int32), KR9 σ (K σ y0 y1)) (σ : RS) (x1 : Int32) (x2 : Int32) : KR9 σ (b_X12_isCaught_12 N K σ x1 x2) := by
  unfold b_X12_isCaught_12
  exact (kr9_ite (kr9_some rfl) (kr9_ite (kr9_ite (kr9_bind (kr9_st rfl (kr9_f_X12_isUnder N σ (σ.a 86 (((σ.i 114) : Int32).toNatClampNeg)) (σ.a 34 ((x2 : Int32).toNatClampNeg)))) (fun p6 => (kr9_ite (kr9_st rfl (hK p6.2 x1 (p6.2.a 37 ((x2 : Int32).toNatClampNeg)))) (kr9_ite (kr9_ite (kr9_some rfl) kr9_none) kr9_none)))) kr9_none) kr9_none))
theorem kr9_f_X12_isCaught_12 (N : Nat) : ∀ (n : Nat) (σ : RS) (y0 : Int32) (y1 : Int32), KR9 σ (f_X12_isCaught_12 N n σ y0 y1)
  | 0, _, _, _ => kr9_none
  | n+1, σ, y0, y1 => kr9_b_X12_isCaught_12 N (f_X12_isCaught_12 N n) (fun σ y0 y1 => kr9_f_X12_isCaught_12 N n σ y0 y1) σ y0 y1
theorem kr9_f_X12_isCaught (N : Nat) (σ : RS) (x1 : Int32) : KR9 σ (f_X12_isCaught N σ x1) := by
  unfold f_X12_isCaught
  exact (kr9_ite (kr9_ite (kr9_st rfl (kr9_f_X12_isCaught_12 N N σ x1 (σ.a 30 (((σ.a 101 ((x1 : Int32).toNatClampNeg)) : Int32).toNatClampNeg)))) kr9_none) kr9_none)
theorem kr9_b_X12_leave_0 (N : Nat) (K : RS → Option (RS)) (hK : ∀ (σ : RS), KV9 σ (K σ)) (σ : RS) : KV9 σ (b_X12_leave_0 N K σ) := by
  unfold b_X12_leave_0
  exact (kv9_ite (kv9_ite (kv9_some rfl) (kv9_ite (kv9_ite (kv9_bindv (kv9_st rfl (kr9_f_X12_row N σ 4 (σ.a 101 ((((σ.i 99) - 1) : Int32).toNatClampNeg)))) (fun p27 => (kv9_ite (kv9_st rfl (hK (RS.setI (RS.setA p27 91 (((p27.a 101 ((((σ.i 99) - 1) : Int32).toNatClampNeg)) : Int32).toNatClampNeg) ((p27.a 91 (((p27.a 101 ((((σ.i 99) - 1) : Int32).toNatClampNeg)) : Int32).toNatClampNeg)) - 1)) 99 ((p27.i 99) - 1)))) kv9_none))) (kv9_ite (kv9_st rfl (hK (RS.setI (RS.setI σ 97 (σ.a 101 ((((σ.i 99) - 1) : Int32).toNatClampNeg))) 99 ((σ.i 99) - 1)))) (kv9_ite (kv9_ite (kv9_bindv (kv9_st rfl (kr9_f_X12_closeAll N σ ((σ.i 99) - 1))) (fun p13 => (kv9_ite (kv9_bind (kr9_st rfl (kr9_f_X12_isCaught N p13 ((σ.i 99) - 1))) (fun p20 => (kv9_ite (kv9_ite (kv9_st rfl (hK (RS.setI p20.2 99 ((p20.2.i 99) - 1)))) (kv9_bind (kr9_st rfl (kr9_f_X12_finals N p20.2 ((σ.i 99) - 1))) (fun p24 => (kv9_ite (kv9_st rfl (hK (RS.setI p24.2 99 ((p24.2.i 99) - 1)))) (kv9_some rfl))))) (kv9_some rfl)))) (kv9_ite (kv9_st rfl (hK (RS.setI p13 99 ((p13.i 99) - 1)))) (kv9_bind (kr9_st rfl (kr9_f_X12_finals N p13 ((σ.i 99) - 1))) (fun p17 => (kv9_ite (kv9_st rfl (hK (RS.setI p17.2 99 ((p17.2.i 99) - 1)))) (kv9_some rfl)))))))) (kv9_ite (kv9_st rfl (hK (RS.setI σ 99 ((σ.i 99) - 1)))) (kv9_bind (kr9_st rfl (kr9_f_X12_finals N σ ((σ.i 99) - 1))) (fun p10 => (kv9_ite (kv9_st rfl (hK (RS.setI p10.2 99 ((p10.2.i 99) - 1)))) (kv9_some rfl)))))) (kv9_st rfl (hK (RS.setI σ 99 ((σ.i 99) - 1))))))) kv9_none)) (kv9_ite (kv9_ite (kv9_ite (kv9_bindv (kv9_st rfl (kr9_f_X12_put N (RS.setI (RS.setI σ 99 ((σ.i 99) - 1)) 93 (σ.a 104 ((((σ.i 99) - 1) : Int32).toNatClampNeg))) (σ.i 113))) (fun p64 => (kv9_ite (kv9_ite (kv9_some rfl) kv9_none) kv9_none))) kv9_none) (kv9_ite (kv9_ite (kv9_bindv (kv9_st rfl (kr9_f_X12_row N σ 4 (σ.a 101 ((((σ.i 99) - 1) : Int32).toNatClampNeg)))) (fun p91 => (kv9_ite (kv9_st rfl (hK (RS.setI (RS.setA p91 91 (((p91.a 101 ((((σ.i 99) - 1) : Int32).toNatClampNeg)) : Int32).toNatClampNeg) ((p91.a 91 (((p91.a 101 ((((σ.i 99) - 1) : Int32).toNatClampNeg)) : Int32).toNatClampNeg)) - 1)) 99 ((p91.i 99) - 1)))) kv9_none))) (kv9_ite (kv9_st rfl (hK (RS.setI (RS.setI σ 97 (σ.a 101 ((((σ.i 99) - 1) : Int32).toNatClampNeg))) 99 ((σ.i 99) - 1)))) (kv9_ite (kv9_ite (kv9_bindv (kv9_st rfl (kr9_f_X12_closeAll N σ ((σ.i 99) - 1))) (fun p77 => (kv9_ite (kv9_bind (kr9_st rfl (kr9_f_X12_isCaught N p77 ((σ.i 99) - 1))) (fun p84 => (kv9_ite (kv9_ite (kv9_st rfl (hK (RS.setI p84.2 99 ((p84.2.i 99) - 1)))) (kv9_bind (kr9_st rfl (kr9_f_X12_finals N p84.2 ((σ.i 99) - 1))) (fun p88 => (kv9_ite (kv9_st rfl (hK (RS.setI p88.2 99 ((p88.2.i 99) - 1)))) (kv9_some rfl))))) (kv9_some rfl)))) (kv9_ite (kv9_st rfl (hK (RS.setI p77 99 ((p77.i 99) - 1)))) (kv9_bind (kr9_st rfl (kr9_f_X12_finals N p77 ((σ.i 99) - 1))) (fun p81 => (kv9_ite (kv9_st rfl (hK (RS.setI p81.2 99 ((p81.2.i 99) - 1)))) (kv9_some rfl)))))))) (kv9_ite (kv9_st rfl (hK (RS.setI σ 99 ((σ.i 99) - 1)))) (kv9_bind (kr9_st rfl (kr9_f_X12_finals N σ ((σ.i 99) - 1))) (fun p74 => (kv9_ite (kv9_st rfl (hK (RS.setI p74.2 99 ((p74.2.i 99) - 1)))) (kv9_some rfl)))))) (kv9_st rfl (hK (RS.setI σ 99 ((σ.i 99) - 1))))))) kv9_none)) (kv9_ite (kv9_some rfl) (kv9_ite (kv9_ite (kv9_bindv (kv9_st rfl (kr9_f_X12_row N σ 4 (σ.a 101 ((((σ.i 99) - 1) : Int32).toNatClampNeg)))) (fun p57 => (kv9_ite (kv9_st rfl (hK (RS.setI (RS.setA p57 91 (((p57.a 101 ((((σ.i 99) - 1) : Int32).toNatClampNeg)) : Int32).toNatClampNeg) ((p57.a 91 (((p57.a 101 ((((σ.i 99) - 1) : Int32).toNatClampNeg)) : Int32).toNatClampNeg)) - 1)) 99 ((p57.i 99) - 1)))) kv9_none))) (kv9_ite (kv9_st rfl (hK (RS.setI (RS.setI σ 97 (σ.a 101 ((((σ.i 99) - 1) : Int32).toNatClampNeg))) 99 ((σ.i 99) - 1)))) (kv9_ite (kv9_ite (kv9_bindv (kv9_st rfl (kr9_f_X12_closeAll N σ ((σ.i 99) - 1))) (fun p43 => (kv9_ite (kv9_bind (kr9_st rfl (kr9_f_X12_isCaught N p43 ((σ.i 99) - 1))) (fun p50 => (kv9_ite (kv9_ite (kv9_st rfl (hK (RS.setI p50.2 99 ((p50.2.i 99) - 1)))) (kv9_bind (kr9_st rfl (kr9_f_X12_finals N p50.2 ((σ.i 99) - 1))) (fun p54 => (kv9_ite (kv9_st rfl (hK (RS.setI p54.2 99 ((p54.2.i 99) - 1)))) (kv9_some rfl))))) (kv9_some rfl)))) (kv9_ite (kv9_st rfl (hK (RS.setI p43 99 ((p43.i 99) - 1)))) (kv9_bind (kr9_st rfl (kr9_f_X12_finals N p43 ((σ.i 99) - 1))) (fun p47 => (kv9_ite (kv9_st rfl (hK (RS.setI p47.2 99 ((p47.2.i 99) - 1)))) (kv9_some rfl)))))))) (kv9_ite (kv9_st rfl (hK (RS.setI σ 99 ((σ.i 99) - 1)))) (kv9_bind (kr9_st rfl (kr9_f_X12_finals N σ ((σ.i 99) - 1))) (fun p40 => (kv9_ite (kv9_st rfl (hK (RS.setI p40.2 99 ((p40.2.i 99) - 1)))) (kv9_some rfl)))))) (kv9_st rfl (hK (RS.setI σ 99 ((σ.i 99) - 1))))))) kv9_none))))
theorem kr9_f_X12_leave_0 (N : Nat) : ∀ (n : Nat) (σ : RS), KV9 σ (f_X12_leave_0 N n σ )
  | 0, _ => kv9_none
  | n+1, σ => kr9_b_X12_leave_0 N (f_X12_leave_0 N n) (fun σ => kr9_f_X12_leave_0 N n σ) σ
theorem kr9_f_X12_leave (N : Nat) (σ : RS) : KV9 σ (f_X12_leave N σ) := by
  unfold f_X12_leave
  exact (kv9_st rfl (kr9_f_X12_leave_0 N N σ))
theorem kr9_f_X12_step (N : Nat) (σ : RS) : KV9 σ (f_X12_step N σ) := by
  unfold f_X12_step
  exact (kv9_ite (kv9_some rfl) (kv9_some rfl))
theorem kr9_f_X12_compute (N : Nat) (σ : RS) (x1 : Int32) (x2 : Int32) (x3 : Int32) : KR9 σ (f_X12_compute N σ x1 x2 x3) := by
  unfold f_X12_compute
  exact (kr9_ite (kr9_ite kr9_none (kr9_some rfl)) (kr9_ite (kr9_some rfl) (kr9_ite (kr9_some rfl) (kr9_ite (kr9_some rfl) (kr9_ite (kr9_ite kr9_none (kr9_some rfl)) (kr9_ite (kr9_ite (kr9_some rfl) (kr9_some rfl)) (kr9_ite (kr9_ite (kr9_some rfl) (kr9_some rfl)) (kr9_ite (kr9_ite (kr9_some rfl) (kr9_some rfl)) (kr9_ite (kr9_ite (kr9_some rfl) (kr9_some rfl)) (kr9_ite (kr9_ite (kr9_some rfl) (kr9_some rfl)) (kr9_ite (kr9_some rfl) (kr9_some rfl))))))))))))
theorem kr9_b_X12_caseOf_5 (N : Nat) (K : RS → Int32 → Int32 → Int32 → Option (Int32 × RS)) (hK : ∀ (σ : RS) (y0 : Int32) (y1 : Int32) (y2 : Int32), KR9 σ (K σ y0 y1 y2)) (σ : RS) (x2 : Int32) (x3 : Int32) (x4 : Int32) : KR9 σ (b_X12_caseOf_5 N K σ x2 x3 x4) := by
  unfold b_X12_caseOf_5
  exact (kr9_ite (kr9_some rfl) (kr9_ite (kr9_ite (kr9_ite (kr9_some rfl) (kr9_st rfl (hK σ x2 x3 (σ.a 27 ((x4 : Int32).toNatClampNeg))))) (kr9_st rfl (hK σ x2 x4 (σ.a 27 ((x4 : Int32).toNatClampNeg))))) kr9_none))
theorem kr9_f_X12_caseOf_5 (N : Nat) : ∀ (n : Nat) (σ : RS) (y0 : Int32) (y1 : Int32) (y2 : Int32), KR9 σ (f_X12_caseOf_5 N n σ y0 y1 y2)
  | 0, _, _, _, _ => kr9_none
  | n+1, σ, y0, y1, y2 => kr9_b_X12_caseOf_5 N (f_X12_caseOf_5 N n) (fun σ y0 y1 y2 => kr9_f_X12_caseOf_5 N n σ y0 y1 y2) σ y0 y1 y2
theorem kr9_f_X12_caseOf (N : Nat) (σ : RS) (x1 : Int32) (x2 : Int32) : KR9 σ (f_X12_caseOf N σ x1 x2) := by
  unfold f_X12_caseOf
  exact (kr9_st rfl (kr9_f_X12_caseOf_5 N N σ x2 (-1) x1))
theorem kr9_f_X12_goOn (N : Nat) (σ : RS) (x1 : Int32) : KV9 σ (f_X12_goOn N σ x1) := by
  unfold f_X12_goOn
  exact (kv9_bind (kr9_st rfl (kr9_f_X12_finals N σ x1)) (fun p1 => (kv9_ite (kv9_ite (kv9_ite (kv9_some rfl) kv9_none) kv9_none) (kv9_some rfl))))
theorem kr9_b_X12_others_85 (N : Nat) (K : RS → Int32 → Int32 → Int32 → Option (RS)) (hK : ∀ (σ : RS) (y0 : Int32) (y1 : Int32) (y2 : Int32), KV9 σ (K σ y0 y1 y2)) (σ : RS) (x2 : Int32) (x4 : Int32) (x5 : Int32) : KV9 σ (b_X12_others_85 N K σ x2 x4 x5) := by
  unfold b_X12_others_85
  exact (kv9_ite (kv9_bind (kr9_st rfl (kr9_f_X12_record N (RS.setI σ 93 ((σ.i 93) - x2)) 2 x4 x4 (σ.i 97))) (fun p4 => (kv9_some rfl))) (kv9_ite (kv9_ite (kv9_st rfl (hK (RS.setI (RS.setA σ 98 (((σ.i 97) : Int32).toNatClampNeg) (σ.a 94 (((((σ.i 93) - x2) + x5) : Int32).toNatClampNeg))) 97 ((σ.i 97) + 1)) x2 x4 (x5 + 1))) kv9_none) kv9_none))
theorem kr9_f_X12_others_85 (N : Nat) : ∀ (n : Nat) (σ : RS) (y0 : Int32) (y1 : Int32) (y2 : Int32), KV9 σ (f_X12_others_85 N n σ y0 y1 y2)
  | 0, _, _, _, _ => kv9_none
  | n+1, σ, y0, y1, y2 => kr9_b_X12_others_85 N (f_X12_others_85 N n) (fun σ y0 y1 y2 => kr9_f_X12_others_85 N n σ y0 y1 y2) σ y0 y1 y2
theorem kr9_f_X12_others (N : Nat) (σ : RS) (x1 : Int32) (x2 : Int32) : KV9 σ (f_X12_others N σ x1 x2) := by
  unfold f_X12_others
  exact (kv9_ite (kv9_ite (kv9_st rfl (kr9_f_X12_others_85 N N σ x2 (σ.i 97) 0)) (kv9_ite (kv9_ite (kv9_ite (kv9_some rfl) (kv9_bindv (kv9_st rfl (kr9_f_X12_step N σ)) (fun p11 => (kv9_ite (kv9_ite (kv9_some rfl) kv9_none) kv9_none)))) kv9_none) (kv9_ite (kv9_ite (kv9_some rfl) kv9_none) (kv9_ite (kv9_ite (kv9_ite (kv9_some rfl) (kv9_bindv (kv9_st rfl (kr9_f_X12_leave N (RS.setI (RS.setI (RS.setI (RS.setI (RS.setI (RS.setI σ 110 (σ.a 105 ((((σ.i 99) - 1) : Int32).toNatClampNeg))) 111 (σ.a 106 ((((σ.i 99) - 1) : Int32).toNatClampNeg))) 112 (σ.a 107 ((((σ.i 99) - 1) : Int32).toNatClampNeg))) 113 (σ.a 108 ((((σ.i 99) - 1) : Int32).toNatClampNeg))) 114 (σ.a 109 ((((σ.i 99) - 1) : Int32).toNatClampNeg))) 99 ((σ.i 99) - 1)))) (fun p20 => (kv9_some rfl)))) kv9_none) (kv9_ite (kv9_ite (kv9_ite (kv9_some rfl) (kv9_bindv (kv9_st rfl (kr9_f_X12_leave N (RS.setI (RS.setI (RS.setI (RS.setI (RS.setI (RS.setI σ 110 (σ.a 105 ((((σ.i 99) - 1) : Int32).toNatClampNeg))) 111 (σ.a 106 ((((σ.i 99) - 1) : Int32).toNatClampNeg))) 112 (σ.a 107 ((((σ.i 99) - 1) : Int32).toNatClampNeg))) 113 (σ.a 108 ((((σ.i 99) - 1) : Int32).toNatClampNeg))) 114 (σ.a 109 ((((σ.i 99) - 1) : Int32).toNatClampNeg))) 99 ((σ.i 99) - 1)))) (fun p25 => (kv9_some rfl)))) kv9_none) (kv9_ite (kv9_ite (kv9_ite (kv9_some rfl) (kv9_bindv (kv9_st rfl (kr9_f_X12_leave N (RS.setI (RS.setI (RS.setI (RS.setI (RS.setI (RS.setI σ 110 (σ.a 105 ((((σ.i 99) - 1) : Int32).toNatClampNeg))) 111 (σ.a 106 ((((σ.i 99) - 1) : Int32).toNatClampNeg))) 112 (σ.a 107 ((((σ.i 99) - 1) : Int32).toNatClampNeg))) 113 (σ.a 108 ((((σ.i 99) - 1) : Int32).toNatClampNeg))) 114 (σ.a 109 ((((σ.i 99) - 1) : Int32).toNatClampNeg))) 99 ((σ.i 99) - 1)))) (fun p30 => (kv9_some rfl)))) kv9_none) (kv9_ite (kv9_ite (kv9_ite (kv9_some rfl) (kv9_bindv (kv9_st rfl (kr9_f_X12_leave N (RS.setI (RS.setI (RS.setI (RS.setI (RS.setI (RS.setI σ 110 (σ.a 105 ((((σ.i 99) - 1) : Int32).toNatClampNeg))) 111 (σ.a 106 ((((σ.i 99) - 1) : Int32).toNatClampNeg))) 112 (σ.a 107 ((((σ.i 99) - 1) : Int32).toNatClampNeg))) 113 (σ.a 108 ((((σ.i 99) - 1) : Int32).toNatClampNeg))) 114 (σ.a 109 ((((σ.i 99) - 1) : Int32).toNatClampNeg))) 99 ((σ.i 99) - 1)))) (fun p35 => (kv9_some rfl)))) kv9_none) (kv9_ite (kv9_ite (kv9_ite (kv9_some rfl) (kv9_bindv (kv9_st rfl (kr9_f_X12_leave N (RS.setI (RS.setI (RS.setI (RS.setI (RS.setI (RS.setI σ 110 (σ.a 105 ((((σ.i 99) - 1) : Int32).toNatClampNeg))) 111 (σ.a 106 ((((σ.i 99) - 1) : Int32).toNatClampNeg))) 112 (σ.a 107 ((((σ.i 99) - 1) : Int32).toNatClampNeg))) 113 (σ.a 108 ((((σ.i 99) - 1) : Int32).toNatClampNeg))) 114 (σ.a 109 ((((σ.i 99) - 1) : Int32).toNatClampNeg))) 99 ((σ.i 99) - 1)))) (fun p40 => (kv9_some rfl)))) kv9_none) (kv9_ite (kv9_bind (kr9_st rfl (kr9_f_X12_record N σ 4 x2 0 (σ.i 95))) (fun p43 => (kv9_some rfl))) (kv9_ite (kv9_ite (kv9_ite (kv9_ite (kv9_bindv (kv9_st rfl (kr9_f_X12_row N σ 1 x2)) (fun p49 => (kv9_ite (kv9_some rfl) kv9_none))) (kv9_some rfl)) (kv9_bindv (kv9_st rfl (kr9_f_X12_raise N σ ((σ.a 6 ((x2 : Int32).toNatClampNeg)) - 1) x2)) (fun p52 => (kv9_bindv (kv9_st rfl (kr9_f_X12_leave N p52)) (fun p54 => (kv9_some rfl)))))) kv9_none) (kv9_ite (kv9_bindv (kv9_st rfl (kr9_f_X12_closeAll N (RS.setI σ 110 0) ((σ.i 99) - 1))) (fun p57 => (kv9_ite (kv9_bindv (kv9_st rfl (kr9_f_X12_leave N p57)) (fun p62 => (kv9_some rfl))) (kv9_bindv (kv9_st rfl (kr9_f_X12_goOn N p57 ((σ.i 99) - 1))) (fun p60 => (kv9_some rfl)))))) (kv9_ite (kv9_bindv (kv9_st rfl (kr9_f_X12_goOn N (RS.setI σ 110 0) ((σ.i 99) - 1))) (fun p65 => (kv9_some rfl))) (kv9_ite (kv9_ite (kv9_some rfl) (kv9_bindv (kv9_st rfl (kr9_f_X12_leave N (RS.setI (RS.setI (RS.setI (RS.setI (RS.setI (RS.setI σ 110 (σ.a 105 ((((σ.i 99) - 1) : Int32).toNatClampNeg))) 111 (σ.a 106 ((((σ.i 99) - 1) : Int32).toNatClampNeg))) 112 (σ.a 107 ((((σ.i 99) - 1) : Int32).toNatClampNeg))) 113 (σ.a 108 ((((σ.i 99) - 1) : Int32).toNatClampNeg))) 114 (σ.a 109 ((((σ.i 99) - 1) : Int32).toNatClampNeg))) 99 ((σ.i 99) - 1)))) (fun p69 => (kv9_some rfl)))) kv9_none))))))))))))) kv9_none)
theorem kr9_f_X12_ends_128 (N : Nat) (σ : RS) (x1 : Int32) : KV9 σ (f_X12_ends_128 N σ x1) := by
  unfold f_X12_ends_128
  exact (kv9_ite (kv9_bindv (kv9_st rfl (kr9_f_X12_leave N (RS.setI σ 112 (σ.a 23 ((x1 : Int32).toNatClampNeg))))) (fun p7 => (kv9_some rfl))) kv9_none)
theorem kr9_f_X12_ends_242 (N : Nat) (σ : RS) : KV9 σ (f_X12_ends_242 N σ) := by
  unfold f_X12_ends_242
  exact (kv9_some rfl)
theorem kr9_f_X12_ends_351 (N : Nat) (σ : RS) : KV9 σ (f_X12_ends_351 N σ) := by
  unfold f_X12_ends_351
  exact (kv9_some rfl)
theorem kr9_f_X12_ends (N : Nat) (σ : RS) (x1 : Int32) (x2 : Int32) : KV9 σ (f_X12_ends N σ x1 x2) := by
  unfold f_X12_ends
  exact (kv9_ite (kv9_ite (kv9_bind (kr9_st rfl (kr9_f_X12_take N σ)) (fun p3 => (kv9_ite (kv9_st rfl (kr9_f_X12_ends_128 N (RS.setI (RS.setI p3.2 113 p3.1) 110 2) x1)) (kv9_st rfl (kr9_f_X12_ends_128 N (RS.setI (RS.setI p3.2 113 p3.1) 110 4) x1))))) (kv9_ite (kv9_bind (kr9_st rfl (kr9_f_X12_take N σ)) (fun p10 => (kv9_ite (kv9_st rfl (kr9_f_X12_ends_128 N (RS.setI (RS.setI p10.2 113 p10.1) 110 2) x1)) (kv9_st rfl (kr9_f_X12_ends_128 N (RS.setI (RS.setI p10.2 113 p10.1) 110 4) x1))))) (kv9_ite (kv9_bind (kr9_st rfl (kr9_f_X12_take N σ)) (fun p14 => (kv9_bindv (kv9_st rfl (kr9_f_X12_raise N p14.2 x2 p14.1)) (fun p16 => (kv9_bindv (kv9_st rfl (kr9_f_X12_leave N p16)) (fun p18 => (kv9_some rfl))))))) (kv9_ite (kv9_bindv (kv9_st rfl (kr9_f_X12_raise N σ x2 0)) (fun p21 => (kv9_bindv (kv9_st rfl (kr9_f_X12_leave N p21)) (fun p23 => (kv9_some rfl))))) (kv9_ite (kv9_ite (kv9_bindv (kv9_st rfl (kr9_f_X12_leave N (RS.setI (RS.setI σ 114 (σ.a 84 ((x2 : Int32).toNatClampNeg))) 110 3))) (fun p27 => (kv9_some rfl))) kv9_none) (kv9_ite (kv9_ite (kv9_st rfl (kr9_f_X12_ends_242 N (RS.setI σ 92 x2))) (kv9_st rfl (kr9_f_X12_ends_242 N (RS.setI σ 92 (σ.i 92))))) (kv9_ite (kv9_bindv (kv9_st rfl (kr9_f_X12_others N σ x1 x2)) (fun p32 => (kv9_some rfl))) (kv9_ite (kv9_bindv (kv9_st rfl (kr9_f_X12_others N σ x1 x2)) (fun p35 => (kv9_some rfl))) (kv9_ite (kv9_bindv (kv9_st rfl (kr9_f_X12_others N σ x1 x2)) (fun p38 => (kv9_some rfl))) (kv9_ite (kv9_bindv (kv9_st rfl (kr9_f_X12_row N σ 3 x2)) (fun p41 => (kv9_ite (kv9_bind (kr9_st rfl (kr9_f_X12_record N (RS.setA p41 91 ((x2 : Int32).toNatClampNeg) ((p41.a 91 ((x2 : Int32).toNatClampNeg)) + 1)) 1 x2 0 0)) (fun p44 => (kv9_some rfl))) kv9_none))) (kv9_ite (kv9_ite (kv9_bindv (kv9_st rfl (kr9_f_X12_row N (RS.setI σ 99 ((σ.i 99) - 1)) 4 (σ.a 101 ((((σ.i 99) - 1) : Int32).toNatClampNeg)))) (fun p48 => (kv9_ite (kv9_ite (kv9_some rfl) kv9_none) kv9_none))) kv9_none) (kv9_ite (kv9_bind (kr9_st rfl (kr9_f_X12_take N σ)) (fun p53 => (kv9_bind (kr9_st rfl (kr9_f_X12_caseOf N p53.2 x2 p53.1)) (fun p55 => (kv9_ite (kv9_ite (kv9_st rfl (kr9_f_X12_ends_351 N (RS.setI p55.2 92 (p55.2.a 26 ((p55.1 : Int32).toNatClampNeg))))) kv9_none) (kv9_st rfl (kr9_f_X12_ends_351 N (RS.setI p55.2 92 (p55.2.a 23 ((x1 : Int32).toNatClampNeg)))))))))) (kv9_ite (kv9_bind (kr9_st rfl (kr9_f_X12_take N σ)) (fun p60 => (kv9_bind (kr9_st rfl (kr9_f_X12_caseOf N p60.2 x2 p60.1)) (fun p62 => (kv9_bind (kr9_st rfl (kr9_f_X12_record N p62.2 3 x1 0 0)) (fun p64 => (kv9_ite (kv9_some rfl) kv9_none))))))) (kv9_ite (kv9_ite (kv9_ite (kv9_some rfl) kv9_none) kv9_none) (kv9_ite (kv9_bindv (kv9_st rfl (kr9_f_X12_others N σ x1 x2)) (fun p71 => (kv9_some rfl))) (kv9_ite (kv9_bindv (kv9_st rfl (kr9_f_X12_others N σ x1 x2)) (fun p74 => (kv9_some rfl))) (kv9_ite (kv9_bindv (kv9_st rfl (kr9_f_X12_others N σ x1 x2)) (fun p77 => (kv9_some rfl))) (kv9_ite (kv9_bindv (kv9_st rfl (kr9_f_X12_others N σ x1 x2)) (fun p80 => (kv9_some rfl))) (kv9_ite (kv9_bindv (kv9_st rfl (kr9_f_X12_others N σ x1 x2)) (fun p83 => (kv9_some rfl))) (kv9_ite (kv9_bindv (kv9_st rfl (kr9_f_X12_leave N (RS.setI (RS.setI (RS.setI σ 110 1) 111 x2) 112 (σ.a 23 ((x1 : Int32).toNatClampNeg))))) (fun p86 => (kv9_some rfl))) (kv9_bindv (kv9_st rfl (kr9_f_X12_others N σ x1 x2)) (fun p88 => (kv9_some rfl))))))))))))))))))))))) kv9_none)
theorem kr9_f_X12_act_229 (N : Nat) (σ : RS) (x2 : Int32) (x3 : Int32) (x4 : Int32) : KV9 σ (f_X12_act_229 N σ x2 x3 x4) := by
  unfold f_X12_act_229
  exact (kv9_bind (kr9_st rfl (kr9_f_X12_compute N σ x2 x4 x3)) (fun p35 => (kv9_bindv (kv9_st rfl (kr9_f_X12_put N p35.2 p35.1)) (fun p37 => (kv9_some rfl)))))
theorem kr9_f_X12_act_212 (N : Nat) (σ : RS) (x2 : Int32) (x3 : Int32) (x4 : Int32) : KV9 σ (f_X12_act_212 N σ x2 x3 x4) := by
  unfold f_X12_act_212
  exact (kv9_ite (kv9_bindv (kv9_st rfl (kr9_f_X12_raise N σ 2 0)) (fun p39 => (kv9_bindv (kv9_st rfl (kr9_f_X12_leave N p39)) (fun p41 => (kv9_some rfl))))) (kv9_st rfl (kr9_f_X12_act_229 N σ x2 x3 x4)))
theorem kr9_f_X12_act_290 (N : Nat) (σ : RS) : KV9 σ (f_X12_act_290 N σ) := by
  unfold f_X12_act_290
  exact (kv9_some rfl)
theorem kr9_f_X12_act_282 (N : Nat) (σ : RS) (x2 : Int32) : KV9 σ (f_X12_act_282 N σ x2) := by
  unfold f_X12_act_282
  exact (kv9_some rfl)
theorem kr9_f_X12_act_322 (N : Nat) (σ : RS) : KV9 σ (f_X12_act_322 N σ) := by
  unfold f_X12_act_322
  exact (kv9_some rfl)
theorem kr9_f_X12_act_344 (N : Nat) (σ : RS) : KV9 σ (f_X12_act_344 N σ) := by
  unfold f_X12_act_344
  exact (kv9_some rfl)
theorem kr9_f_X12_act (N : Nat) (σ : RS) (x1 : Int32) : KV9 σ (f_X12_act N σ x1) := by
  unfold f_X12_act
  exact (kv9_ite (kv9_ite (kv9_bindv (kv9_st rfl (kr9_f_X12_step N σ)) (fun p3 => (kv9_some rfl))) (kv9_ite (kv9_bindv (kv9_st rfl (kr9_f_X12_put N σ (σ.a 22 ((x1 : Int32).toNatClampNeg)))) (fun p6 => (kv9_some rfl))) (kv9_ite (kv9_ite (kv9_bindv (kv9_st rfl (kr9_f_X12_put N σ (σ.a 84 (((σ.a 22 ((x1 : Int32).toNatClampNeg)) : Int32).toNatClampNeg)))) (fun p10 => (kv9_some rfl))) kv9_none) (kv9_ite (kv9_ite (kv9_ite (kv9_bindv (kv9_st rfl (kr9_f_X12_put N σ (σ.a 87 (((σ.a 84 (((σ.a 22 ((x1 : Int32).toNatClampNeg)) : Int32).toNatClampNeg)) : Int32).toNatClampNeg)))) (fun p15 => (kv9_some rfl))) kv9_none) kv9_none) (kv9_ite (kv9_bind (kr9_st rfl (kr9_f_X12_take N σ)) (fun p18 => (kv9_ite (kv9_some rfl) kv9_none))) (kv9_ite (kv9_ite (kv9_some rfl) kv9_none) (kv9_ite (kv9_bind (kr9_st rfl (kr9_f_X12_take N σ)) (fun p24 => (kv9_bindv (kv9_st rfl (kr9_f_X12_put N p24.2 (-p24.1))) (fun p26 => (kv9_some rfl))))) (kv9_ite (kv9_bind (kr9_st rfl (kr9_f_X12_take N σ)) (fun p29 => (kv9_bind (kr9_st rfl (kr9_f_X12_take N p29.2)) (fun p31 => (kv9_ite (kv9_st rfl (kr9_f_X12_act_212 N p31.2 (σ.a 22 ((x1 : Int32).toNatClampNeg)) p29.1 p31.1)) (kv9_ite (kv9_st rfl (kr9_f_X12_act_212 N p31.2 (σ.a 22 ((x1 : Int32).toNatClampNeg)) p29.1 p31.1)) (kv9_st rfl (kr9_f_X12_act_229 N p31.2 (σ.a 22 ((x1 : Int32).toNatClampNeg)) p29.1 p31.1)))))))) (kv9_ite (kv9_bind (kr9_st rfl (kr9_f_X12_take N σ)) (fun p45 => (kv9_bind (kr9_st rfl (kr9_f_X12_take N p45.2)) (fun p47 => (kv9_ite (kv9_st rfl (kr9_f_X12_act_212 N p47.2 (σ.a 22 ((x1 : Int32).toNatClampNeg)) p45.1 p47.1)) (kv9_ite (kv9_st rfl (kr9_f_X12_act_212 N p47.2 (σ.a 22 ((x1 : Int32).toNatClampNeg)) p45.1 p47.1)) (kv9_st rfl (kr9_f_X12_act_229 N p47.2 (σ.a 22 ((x1 : Int32).toNatClampNeg)) p45.1 p47.1)))))))) (kv9_ite (kv9_bind (kr9_st rfl (kr9_f_X12_take N σ)) (fun p52 => (kv9_bindv (kv9_st rfl (kr9_f_X12_put N p52.2 (1 - p52.1))) (fun p54 => (kv9_some rfl))))) (kv9_ite (kv9_ite (kv9_ite (kv9_st rfl (kr9_f_X12_act_290 N σ)) (kv9_st rfl (kr9_f_X12_act_282 N σ (σ.a 22 ((x1 : Int32).toNatClampNeg))))) kv9_none) (kv9_ite (kv9_ite (kv9_ite (kv9_st rfl (kr9_f_X12_act_282 N σ (σ.a 22 ((x1 : Int32).toNatClampNeg)))) (kv9_st rfl (kr9_f_X12_act_290 N σ))) kv9_none) (kv9_ite (kv9_bind (kr9_st rfl (kr9_f_X12_take N σ)) (fun p67 => (kv9_ite (kv9_st rfl (kr9_f_X12_act_322 N (RS.setI p67.2 92 (σ.a 22 ((x1 : Int32).toNatClampNeg))))) (kv9_st rfl (kr9_f_X12_act_322 N (RS.setI p67.2 92 (p67.2.i 92))))))) (kv9_ite (kv9_bind (kr9_st rfl (kr9_f_X12_take N σ)) (fun p71 => (kv9_ite (kv9_st rfl (kr9_f_X12_act_344 N (RS.setI p71.2 92 (p71.2.i 92)))) (kv9_st rfl (kr9_f_X12_act_344 N (RS.setI p71.2 92 (σ.a 22 ((x1 : Int32).toNatClampNeg)))))))) (kv9_ite (kv9_some rfl) (kv9_ite (kv9_bind (kr9_st rfl (kr9_f_X12_take N σ)) (fun p76 => (kv9_bindv (kv9_st rfl (kr9_f_X12_row N p76.2 0 p76.1)) (fun p78 => (kv9_some rfl))))) (kv9_bindv (kv9_st rfl (kr9_f_X12_ends N σ x1 (σ.a 22 ((x1 : Int32).toNatClampNeg)))) (fun p80 => (kv9_some rfl))))))))))))))))))) kv9_none)
theorem kr9_f_X12_run_163 (N : Nat) (σ : RS) : KR9 σ (f_X12_run_163 N σ) := by
  unfold f_X12_run_163
  exact (kr9_ite (kr9_some rfl) (kr9_ite (kr9_some rfl) (kr9_ite (kr9_some rfl) (kr9_some rfl))))
theorem kr9_b_X12_run_122 (N : Nat) (K : RS → Option (Int32 × RS)) (hK : ∀ (σ : RS), KR9 σ (K σ)) (σ : RS) : KR9 σ (b_X12_run_122 N K σ) := by
  unfold b_X12_run_122
  exact (kr9_ite (kr9_st rfl (kr9_f_X12_run_163 N σ)) (kr9_ite (kr9_st rfl (kr9_f_X12_run_163 N σ)) (kr9_bindv (kv9_st rfl (kr9_f_X12_act N (RS.setI σ 92 ((σ.i 92) + 1)) (σ.i 92))) (fun p9 => (kr9_st rfl (hK p9))))))
theorem kr9_f_X12_run_122 (N : Nat) : ∀ (n : Nat) (σ : RS), KR9 σ (f_X12_run_122 N n σ )
  | 0, _ => kr9_none
  | n+1, σ => kr9_b_X12_run_122 N (f_X12_run_122 N n) (fun σ => kr9_f_X12_run_122 N n σ) σ
theorem kr9_b_X12_run_39 (N : Nat) (K : RS → Int32 → Int32 → Int32 → Option (Int32 × RS)) (hK : ∀ (σ : RS) (y0 : Int32) (y1 : Int32) (y2 : Int32), KR9 σ (K σ y0 y1 y2)) (σ : RS) (x1 : Int32) (x2 : Int32) (x3 : Int32) : KR9 σ (b_X12_run_39 N K σ x1 x2 x3) := by
  unfold b_X12_run_39
  exact (kr9_ite (kr9_st rfl (kr9_f_X12_run_122 N N (RS.setI (RS.setI (RS.setI (RS.setI (RS.setI (RS.setI (RS.setI (RS.setI (RS.setI (RS.setI (RS.setA (RS.setA σ 84 ((0 : Int32).toNatClampNeg) x1) 84 ((1 : Int32).toNatClampNeg) x2) 80 0) 81 0) 85 0) 95 0) 97 0) 99 0) 93 0) 79 1) 115 0) 92 0))) (kr9_ite (kr9_st rfl (hK (RS.setA σ 91 ((x3 : Int32).toNatClampNeg) 0) x1 x2 (x3 + 1))) kr9_none))
theorem kr9_f_X12_run_39 (N : Nat) : ∀ (n : Nat) (σ : RS) (y0 : Int32) (y1 : Int32) (y2 : Int32), KR9 σ (f_X12_run_39 N n σ y0 y1 y2)
  | 0, _, _, _, _ => kr9_none
  | n+1, σ, y0, y1, y2 => kr9_b_X12_run_39 N (f_X12_run_39 N n) (fun σ y0 y1 y2 => kr9_f_X12_run_39 N n σ y0 y1 y2) σ y0 y1 y2
theorem kr9_b_X12_run_17 (N : Nat) (K : RS → Int32 → Int32 → Int32 → Option (Int32 × RS)) (hK : ∀ (σ : RS) (y0 : Int32) (y1 : Int32) (y2 : Int32), KR9 σ (K σ y0 y1 y2)) (σ : RS) (x1 : Int32) (x2 : Int32) (x3 : Int32) : KR9 σ (b_X12_run_17 N K σ x1 x2 x3) := by
  unfold b_X12_run_17
  exact (kr9_ite (kr9_st rfl (kr9_f_X12_run_39 N N σ x1 x2 0)) (kr9_ite (kr9_st rfl (hK (RS.setA σ 84 ((x3 : Int32).toNatClampNeg) 0) x1 x2 (x3 + 1))) kr9_none))
theorem kr9_f_X12_run_17 (N : Nat) : ∀ (n : Nat) (σ : RS) (y0 : Int32) (y1 : Int32) (y2 : Int32), KR9 σ (f_X12_run_17 N n σ y0 y1 y2)
  | 0, _, _, _, _ => kr9_none
  | n+1, σ, y0, y1, y2 => kr9_b_X12_run_17 N (f_X12_run_17 N n) (fun σ y0 y1 y2 => kr9_f_X12_run_17 N n σ y0 y1 y2) σ y0 y1 y2
theorem kr9_f_X12_run (N : Nat) (σ : RS) (x1 : Int32) (x2 : Int32) : KR9 σ (f_X12_run N σ x1 x2) := by
  unfold f_X12_run
  exact (kr9_ite (kr9_some rfl) (kr9_st rfl (kr9_f_X12_run_17 N N (RS.setI σ 0 0) x1 x2 0)))
theorem kr9_b_X12_ran_168 (N : Nat) (K : RS → Int32 → Int32 → Option (Int32 × RS)) (hK : ∀ (σ : RS) (y0 : Int32) (y1 : Int32), KR9 σ (K σ y0 y1)) (σ : RS) (x3 : Int32) (x4 : Int32) : KR9 σ (b_X12_ran_168 N K σ x3 x4) := by
  unfold b_X12_ran_168
  exact (kr9_ite (kr9_some rfl) (kr9_ite (kr9_st rfl (hK σ (x3 + (σ.a 91 ((x4 : Int32).toNatClampNeg))) (x4 + 1))) kr9_none))
theorem kr9_f_X12_ran_168 (N : Nat) : ∀ (n : Nat) (σ : RS) (y0 : Int32) (y1 : Int32), KR9 σ (f_X12_ran_168 N n σ y0 y1)
  | 0, _, _, _ => kr9_none
  | n+1, σ, y0, y1 => kr9_b_X12_ran_168 N (f_X12_ran_168 N n) (fun σ y0 y1 => kr9_f_X12_ran_168 N n σ y0 y1) σ y0 y1
theorem kr9_f_X12_ran_41 (N : Nat) (σ : RS) (x1 : Int32) (x2 : Int32) : KR9 σ (f_X12_ran_41 N σ x1 x2) := by
  unfold f_X12_ran_41
  exact (kr9_ite (kr9_some rfl) (kr9_ite (kr9_some rfl) (kr9_ite (kr9_ite (kr9_some rfl) (kr9_some rfl)) (kr9_ite (kr9_ite (kr9_some rfl) (kr9_ite (kr9_some rfl) kr9_none)) (kr9_ite (kr9_ite (kr9_some rfl) (kr9_ite (kr9_some rfl) kr9_none)) (kr9_ite (kr9_ite (kr9_some rfl) (kr9_ite (kr9_some rfl) kr9_none)) (kr9_st rfl (kr9_f_X12_ran_168 N N σ 0 0))))))))
theorem kr9_f_X12_ran (N : Nat) (σ : RS) (x1 : Int32) : KR9 σ (f_X12_ran N σ x1) := by
  unfold f_X12_ran
  exact (kr9_bind (kr9_st rfl (kr9_f_X12_in N (RS.setI σ 0 0) x1 0 6)) (fun p1 => (kr9_ite (kr9_some rfl) (kr9_ite (kr9_some rfl) (kr9_ite (kr9_st rfl (kr9_f_X12_ran_41 N p1.2 x1 1)) (kr9_st rfl (kr9_f_X12_ran_41 N p1.2 x1 0)))))))
theorem kr9_f_X12_trace_35 (N : Nat) (σ : RS) : KR9 σ (f_X12_trace_35 N σ) := by
  unfold f_X12_trace_35
  exact (kr9_some rfl)
theorem kr9_f_X12_trace (N : Nat) (σ : RS) (x1 : Int32) (x2 : Int32) : KR9 σ (f_X12_trace N σ x1 x2) := by
  unfold f_X12_trace
  exact (kr9_ite (kr9_st rfl (kr9_f_X12_trace_35 N (RS.setI σ 0 0))) (kr9_bind (kr9_st rfl (kr9_f_X12_in N (RS.setI σ 0 0) x1 0 ((σ.i 81) - 1))) (fun p2 => (kr9_ite (kr9_st rfl (kr9_f_X12_trace_35 N p2.2)) (kr9_bind (kr9_st rfl (kr9_f_X12_in N p2.2 x2 0 1)) (fun p5 => (kr9_ite (kr9_st rfl (kr9_f_X12_trace_35 N p5.2)) (kr9_ite (kr9_ite (kr9_some rfl) kr9_none) (kr9_ite (kr9_some rfl) kr9_none)))))))))
theorem kr9_f_X12_suppressed_48 (N : Nat) (σ : RS) : KR9 σ (f_X12_suppressed_48 N σ) := by
  unfold f_X12_suppressed_48
  exact (kr9_some rfl)
theorem kr9_f_X12_suppressed (N : Nat) (σ : RS) (x1 : Int32) (x2 : Int32) : KR9 σ (f_X12_suppressed N σ x1 x2) := by
  unfold f_X12_suppressed
  exact (kr9_ite (kr9_st rfl (kr9_f_X12_suppressed_48 N (RS.setI σ 0 0))) (kr9_ite (kr9_ite (kr9_bind (kr9_st rfl (kr9_f_X12_in N (RS.setI σ 0 0) x1 0 ((σ.a 88 (((σ.i 114) : Int32).toNatClampNeg)) - 1))) (fun p4 => (kr9_ite (kr9_st rfl (kr9_f_X12_suppressed_48 N p4.2)) (kr9_bind (kr9_st rfl (kr9_f_X12_in N p4.2 x2 0 1)) (fun p7 => (kr9_ite (kr9_st rfl (kr9_f_X12_suppressed_48 N p7.2)) (kr9_ite (kr9_ite (kr9_some rfl) kr9_none) (kr9_ite (kr9_some rfl) kr9_none)))))))) kr9_none) (kr9_st rfl (kr9_f_X12_suppressed_48 N (RS.setI σ 0 0)))))
theorem kr9_f_X12_rounds_13 (N : Nat) (σ : RS) : KR9 σ (f_X12_rounds_13 N σ) := by
  unfold f_X12_rounds_13
  exact (kr9_some rfl)
theorem kr9_f_X12_rounds (N : Nat) (σ : RS) (x1 : Int32) (x2 : Int32) : KR9 σ (f_X12_rounds N σ x1 x2) := by
  unfold f_X12_rounds
  exact (kr9_ite (kr9_st rfl (kr9_f_X12_rounds_13 N (RS.setI σ 0 0))) (kr9_ite (kr9_ite (kr9_some rfl) (kr9_ite kr9_none (kr9_ite (kr9_some rfl) (kr9_some rfl)))) (kr9_st rfl (kr9_f_X12_rounds_13 N (RS.setI σ 0 0)))))
/-! the reference: what its reading leaves alone -/
def pRc (s : RS) : Int32 × Int32 × Int32 × Int32 × Int32 × (Nat → Int32) := (s.i 53, s.i 54, s.i 55, s.i 77, s.i 78, s.a 1)
def KS7 (s r : RS) : Prop := pRc r = pRc s
theorem KS7.tr {s r u : RS} (h : KS7 s r) (g : KS7 r u) : KS7 s u := Eq.trans g h
def KR7 {α : Type} (s : RS) (t : Option (α × RS)) : Prop := ∀ R, t = some R → KS7 s R.2
def KV7 (s : RS) (t : Option RS) : Prop := ∀ R, t = some R → KS7 s R
theorem kr7_some {α : Type} {s : RS} {r : α × RS} (h : KS7 s r.2) : KR7 s (some r) := fun R q => by
  cases q
  exact h
theorem kv7_some {s r : RS} (h : KS7 s r) : KV7 s (some r) := fun R q => by
  cases q
  exact h
theorem kr7_none {α : Type} {s : RS} : KR7 s (none : Option (α × RS)) := fun R q => by cases q
theorem kv7_none {s : RS} : KV7 s (none : Option RS) := fun R q => by cases q
theorem kr7_ite {α : Type} {s : RS} {c : Prop} [Decidable c] {x y : Option (α × RS)} (hx : KR7 s x) (hy : KR7 s y) : KR7 s (if c then x else y) := by
  by_cases h : c
  · rw [if_pos h]; exact hx
  · rw [if_neg h]; exact hy
theorem kv7_ite {s : RS} {c : Prop} [Decidable c] {x y : Option RS} (hx : KV7 s x) (hy : KV7 s y) : KV7 s (if c then x else y) := by
  by_cases h : c
  · rw [if_pos h]; exact hx
  · rw [if_neg h]; exact hy
theorem kr7_st {α : Type} {s r : RS} {t : Option (α × RS)} (h : KS7 s r) (g : KR7 r t) : KR7 s t := fun R q => h.tr (g R q)
theorem kv7_st {s r : RS} {t : Option RS} (h : KS7 s r) (g : KV7 r t) : KV7 s t := fun R q => h.tr (g R q)
theorem kr7_bind {α β : Type} {s : RS} {x : Option (α × RS)} {k : α × RS → Option (β × RS)} (hx : KR7 s x) (hk : ∀ p : α × RS, KR7 p.2 (k p)) : KR7 s (x.bind k) := by
  intro R h
  obtain ⟨p, h1, h2⟩ := hf_bind h
  exact (hx p h1).tr (hk p R h2)
theorem kr7_bindv {β : Type} {s : RS} {x : Option RS} {k : RS → Option (β × RS)} (hx : KV7 s x) (hk : ∀ p : RS, KR7 p (k p)) : KR7 s (x.bind k) := by
  intro R h
  obtain ⟨p, h1, h2⟩ := hf_bind h
  exact (hx p h1).tr (hk p R h2)
theorem kv7_bind {α : Type} {s : RS} {x : Option (α × RS)} {k : α × RS → Option RS} (hx : KR7 s x) (hk : ∀ p : α × RS, KV7 p.2 (k p)) : KV7 s (x.bind k) := by
  intro R h
  obtain ⟨p, h1, h2⟩ := hf_bind h
  exact (hx p h1).tr (hk p R h2)
theorem kv7_bindv {s : RS} {x : Option RS} {k : RS → Option RS} (hx : KV7 s x) (hk : ∀ p : RS, KV7 p (k p)) : KV7 s (x.bind k) := by
  intro R h
  obtain ⟨p, h1, h2⟩ := hf_bind h
  exact (hx p h1).tr (hk p R h2)
theorem kr7_f_X12_thrown (N : Nat) (σ : RS) : KR7 σ (f_X12_thrown N σ) := by
  unfold f_X12_thrown
  exact (kr7_some rfl)
theorem kr7_f_X12_in_14 (N : Nat) (σ : RS) : KR7 σ (f_X12_in_14 N σ) := by
  unfold f_X12_in_14
  exact (kr7_some rfl)
theorem kr7_f_X12_in (N : Nat) (σ : RS) (x0 : Int32) (x1 : Int32) (x2 : Int32) : KR7 σ (f_X12_in N σ x0 x1 x2) := by
  unfold f_X12_in
  exact (kr7_ite (kr7_st rfl (kr7_f_X12_in_14 N σ)) (kr7_ite (kr7_st rfl (kr7_f_X12_in_14 N σ)) (kr7_some rfl)))
theorem kr7_f_X12_isUnder_21 (N : Nat) (σ : RS) (x2 : Int32) (x3 : Int32) : KR7 σ (f_X12_isUnder_21 N σ x2 x3) := by
  unfold f_X12_isUnder_21
  exact (kr7_ite (kr7_some rfl) (kr7_some rfl))
theorem kr7_b_X12_isUnder_2 (N : Nat) (K : RS → Int32 → Int32 → Option (Int32 × RS)) (hK : ∀ (σ : RS) (y0 : Int32) (y1 : Int32), KR7 σ (K σ y0 y1)) (σ : RS) (x2 : Int32) (x3 : Int32) : KR7 σ (b_X12_isUnder_2 N K σ x2 x3) := by
  unfold b_X12_isUnder_2
  exact (kr7_ite (kr7_st rfl (kr7_f_X12_isUnder_21 N σ x2 x3)) (kr7_ite (kr7_st rfl (kr7_f_X12_isUnder_21 N σ x2 x3)) (kr7_ite (kr7_st rfl (hK σ x2 (σ.a 4 ((x3 : Int32).toNatClampNeg)))) kr7_none)))
theorem kr7_f_X12_isUnder_2 (N : Nat) : ∀ (n : Nat) (σ : RS) (y0 : Int32) (y1 : Int32), KR7 σ (f_X12_isUnder_2 N n σ y0 y1)
  | 0, _, _, _ => kr7_none
  | n+1, σ, y0, y1 => kr7_b_X12_isUnder_2 N (f_X12_isUnder_2 N n) (fun σ y0 y1 => kr7_f_X12_isUnder_2 N n σ y0 y1) σ y0 y1
theorem kr7_f_X12_isUnder (N : Nat) (σ : RS) (x1 : Int32) (x2 : Int32) : KR7 σ (f_X12_isUnder N σ x1 x2) := by
  unfold f_X12_isUnder
  exact (kr7_st rfl (kr7_f_X12_isUnder_2 N N σ x2 x1))
theorem kr7_f_X12_under_33 (N : Nat) (σ : RS) : KR7 σ (f_X12_under_33 N σ) := by
  unfold f_X12_under_33
  exact (kr7_some rfl)
theorem kr7_f_X12_under (N : Nat) (σ : RS) (x1 : Int32) (x2 : Int32) : KR7 σ (f_X12_under N σ x1 x2) := by
  unfold f_X12_under
  exact (kr7_bind (kr7_st rfl (kr7_f_X12_in N (RS.setI σ 0 0) x1 0 ((σ.i 3) - 1))) (fun p1 => (kr7_ite (kr7_st rfl (kr7_f_X12_under_33 N p1.2)) (kr7_bind (kr7_st rfl (kr7_f_X12_in N p1.2 x2 0 ((p1.2.i 3) - 1))) (fun p4 => (kr7_ite (kr7_st rfl (kr7_f_X12_under_33 N p4.2)) (kr7_bind (kr7_st rfl (kr7_f_X12_isUnder N p4.2 x1 x2)) (fun p7 => (kr7_ite (kr7_some rfl) (kr7_some rfl))))))))))
theorem kr7_f_X12_resource_53 (N : Nat) (σ : RS) : KR7 σ (f_X12_resource_53 N σ) := by
  unfold f_X12_resource_53
  exact (kr7_some rfl)
theorem kr7_f_X12_resource_71 (N : Nat) (σ : RS) (x1 : Int32) (x3 : Int32) (x4 : Int32) : KR7 σ (f_X12_resource_71 N σ x1 x3 x4) := by
  unfold f_X12_resource_71
  exact (kr7_ite (kr7_some rfl) kr7_none)
theorem kr7_f_X12_resource (N : Nat) (σ : RS) (x1 : Int32) (x2 : Int32) (x3 : Int32) (x4 : Int32) : KR7 σ (f_X12_resource N σ x1 x2 x3 x4) := by
  unfold f_X12_resource
  exact (kr7_bind (kr7_st rfl (kr7_f_X12_in N (RS.setI σ 0 0) x1 0 7)) (fun p1 => (kr7_ite (kr7_st rfl (kr7_f_X12_resource_53 N p1.2)) (kr7_bind (kr7_st rfl (kr7_f_X12_in N p1.2 x2 0 1)) (fun p4 => (kr7_ite (kr7_st rfl (kr7_f_X12_resource_53 N p4.2)) (kr7_bind (kr7_st rfl (kr7_f_X12_in N p4.2 x3 (-1) ((p4.2.i 3) - 1))) (fun p7 => (kr7_ite (kr7_st rfl (kr7_f_X12_resource_53 N p7.2)) (kr7_bind (kr7_st rfl (kr7_f_X12_in N p7.2 x4 (-1) ((p7.2.i 3) - 1))) (fun p10 => (kr7_ite (kr7_st rfl (kr7_f_X12_resource_53 N p10.2)) (kr7_ite (kr7_ite (kr7_st rfl (kr7_f_X12_resource_71 N (RS.setA p10.2 5 ((x1 : Int32).toNatClampNeg) 1) x1 x3 x4)) kr7_none) (kr7_ite (kr7_st rfl (kr7_f_X12_resource_71 N (RS.setA p10.2 5 ((x1 : Int32).toNatClampNeg) 0) x1 x3 x4)) kr7_none))))))))))))))
theorem kr7_f_X12_fault (N : Nat) (σ : RS) : KR7 σ (f_X12_fault N σ) := by
  unfold f_X12_fault
  exact (kr7_some rfl)
theorem kr7_f_X12_program (N : Nat) (σ : RS) (x1 : Int32) : KR7 σ (f_X12_program N σ x1) := by
  unfold f_X12_program
  exact (kr7_bind (kr7_st rfl (kr7_f_X12_in N (RS.setI σ 0 0) x1 0 3)) (fun p1 => (kr7_ite (kr7_some rfl) (kr7_ite (kr7_some rfl) (kr7_ite (kr7_some rfl) (kr7_ite (kr7_ite (kr7_some rfl) (kr7_some rfl)) (kr7_ite (kr7_some rfl) (kr7_some rfl))))))))
theorem kr7_f_X12_row (N : Nat) (σ : RS) (x1 : Int32) (x2 : Int32) : KV7 σ (f_X12_row N σ x1 x2) := by
  unfold f_X12_row
  exact (kv7_ite (kv7_some rfl) (kv7_ite (kv7_some rfl) kv7_none))
theorem kr7_f_X12_record (N : Nat) (σ : RS) (x1 : Int32) (x2 : Int32) (x3 : Int32) (x4 : Int32) : KR7 σ (f_X12_record N σ x1 x2 x3 x4) := by
  unfold f_X12_record
  exact (kr7_ite (kr7_some rfl) kr7_none)
theorem kr7_f_X12_put (N : Nat) (σ : RS) (x1 : Int32) : KV7 σ (f_X12_put N σ x1) := by
  unfold f_X12_put
  exact (kv7_ite (kv7_some rfl) kv7_none)
theorem kr7_f_X12_take (N : Nat) (σ : RS) : KR7 σ (f_X12_take N σ) := by
  unfold f_X12_take
  exact (kr7_ite (kr7_some rfl) kr7_none)
theorem kr7_f_X12_raise_24 (N : Nat) (σ : RS) (x1 : Int32) (x2 : Int32) : KV7 σ (f_X12_raise_24 N σ x1 x2) := by
  unfold f_X12_raise_24
  exact (kv7_ite (kv7_some rfl) kv7_none)
theorem kr7_f_X12_raise (N : Nat) (σ : RS) (x1 : Int32) (x2 : Int32) : KV7 σ (f_X12_raise N σ x1 x2) := by
  unfold f_X12_raise
  exact (kv7_ite (kv7_st rfl (kr7_f_X12_raise_24 N (RS.setI σ 114 3199) x1 x2)) (kv7_st rfl (kr7_f_X12_raise_24 N (RS.setI σ 114 (σ.i 85)) x1 x2)))
theorem kr7_b_X12_closeAll_0 (N : Nat) (K : RS → Int32 → Option (RS)) (hK : ∀ (σ : RS) (y0 : Int32), KV7 σ (K σ y0)) (σ : RS) (x1 : Int32) : KV7 σ (b_X12_closeAll_0 N K σ x1) := by
  unfold b_X12_closeAll_0
  exact (kv7_ite (kv7_ite (kv7_some rfl) (kv7_ite (kv7_bindv (kv7_st rfl (kr7_f_X12_row N (RS.setI σ 95 ((σ.i 95) - 1)) 2 (σ.a 96 ((((σ.i 95) - 1) : Int32).toNatClampNeg)))) (fun p4 => (kv7_ite (kv7_ite (kv7_st rfl (hK p4 x1)) (kv7_ite (kv7_ite (kv7_ite (kv7_st rfl (hK p4 x1)) (kv7_ite (kv7_st rfl (hK (RS.setA (RS.setA (RS.setA p4 89 ((((8 * (p4.i 114)) + (p4.a 88 (((p4.i 114) : Int32).toNatClampNeg))) : Int32).toNatClampNeg) ((p4.a 7 (((σ.a 96 ((((σ.i 95) - 1) : Int32).toNatClampNeg)) : Int32).toNatClampNeg)) - 1)) 90 ((((8 * (p4.i 114)) + (p4.a 88 (((p4.i 114) : Int32).toNatClampNeg))) : Int32).toNatClampNeg) (σ.a 96 ((((σ.i 95) - 1) : Int32).toNatClampNeg))) 88 (((p4.i 114) : Int32).toNatClampNeg) ((p4.a 88 (((p4.i 114) : Int32).toNatClampNeg)) + 1)) x1)) kv7_none)) kv7_none) (kv7_bindv (kv7_st rfl (kr7_f_X12_raise N p4 ((p4.a 7 (((σ.a 96 ((((σ.i 95) - 1) : Int32).toNatClampNeg)) : Int32).toNatClampNeg)) - 1) (σ.a 96 ((((σ.i 95) - 1) : Int32).toNatClampNeg)))) (fun p14 => (kv7_st rfl (hK p14 x1)))))) kv7_none))) kv7_none)) kv7_none)
theorem kr7_f_X12_closeAll_0 (N : Nat) : ∀ (n : Nat) (σ : RS) (y0 : Int32), KV7 σ (f_X12_closeAll_0 N n σ y0)
  | 0, _, _ => kv7_none
  | n+1, σ, y0 => kr7_b_X12_closeAll_0 N (f_X12_closeAll_0 N n) (fun σ y0 => kr7_f_X12_closeAll_0 N n σ y0) σ y0
theorem kr7_f_X12_closeAll (N : Nat) (σ : RS) (x1 : Int32) : KV7 σ (f_X12_closeAll N σ x1) := by
  unfold f_X12_closeAll
  exact (kv7_st rfl (kr7_f_X12_closeAll_0 N N σ x1))
theorem kr7_f_X12_finals (N : Nat) (σ : RS) (x1 : Int32) : KR7 σ (f_X12_finals N σ x1) := by
  unfold f_X12_finals
  exact (kr7_ite (kr7_ite (kr7_ite (kr7_some rfl) (kr7_some rfl)) kr7_none) kr7_none)
theorem kr7_b_X12_isCaught_12 (N : Nat) (K : RS → Int32 → Int32 → Option (Int32 × RS)) (hK : ∀ (σ : RS) (y0 : Int32) (y1 : Int32), KR7 σ (K σ y0 y1)) (σ : RS) (x1 : Int32) (x2 : Int32) : KR7 σ (b_X12_isCaught_12 N K σ x1 x2) := by
  unfold b_X12_isCaught_12
  exact (kr7_ite (kr7_some rfl) (kr7_ite (kr7_ite (kr7_bind (kr7_st rfl (kr7_f_X12_isUnder N σ (σ.a 86 (((σ.i 114) : Int32).toNatClampNeg)) (σ.a 34 ((x2 : Int32).toNatClampNeg)))) (fun p6 => (kr7_ite (kr7_st rfl (hK p6.2 x1 (p6.2.a 37 ((x2 : Int32).toNatClampNeg)))) (kr7_ite (kr7_ite (kr7_some rfl) kr7_none) kr7_none)))) kr7_none) kr7_none))
theorem kr7_f_X12_isCaught_12 (N : Nat) : ∀ (n : Nat) (σ : RS) (y0 : Int32) (y1 : Int32), KR7 σ (f_X12_isCaught_12 N n σ y0 y1)
  | 0, _, _, _ => kr7_none
  | n+1, σ, y0, y1 => kr7_b_X12_isCaught_12 N (f_X12_isCaught_12 N n) (fun σ y0 y1 => kr7_f_X12_isCaught_12 N n σ y0 y1) σ y0 y1
theorem kr7_f_X12_isCaught (N : Nat) (σ : RS) (x1 : Int32) : KR7 σ (f_X12_isCaught N σ x1) := by
  unfold f_X12_isCaught
  exact (kr7_ite (kr7_ite (kr7_st rfl (kr7_f_X12_isCaught_12 N N σ x1 (σ.a 30 (((σ.a 101 ((x1 : Int32).toNatClampNeg)) : Int32).toNatClampNeg)))) kr7_none) kr7_none)
theorem kr7_b_X12_leave_0 (N : Nat) (K : RS → Option (RS)) (hK : ∀ (σ : RS), KV7 σ (K σ)) (σ : RS) : KV7 σ (b_X12_leave_0 N K σ) := by
  unfold b_X12_leave_0
  exact (kv7_ite (kv7_ite (kv7_some rfl) (kv7_ite (kv7_ite (kv7_bindv (kv7_st rfl (kr7_f_X12_row N σ 4 (σ.a 101 ((((σ.i 99) - 1) : Int32).toNatClampNeg)))) (fun p27 => (kv7_ite (kv7_st rfl (hK (RS.setI (RS.setA p27 91 (((p27.a 101 ((((σ.i 99) - 1) : Int32).toNatClampNeg)) : Int32).toNatClampNeg) ((p27.a 91 (((p27.a 101 ((((σ.i 99) - 1) : Int32).toNatClampNeg)) : Int32).toNatClampNeg)) - 1)) 99 ((p27.i 99) - 1)))) kv7_none))) (kv7_ite (kv7_st rfl (hK (RS.setI (RS.setI σ 97 (σ.a 101 ((((σ.i 99) - 1) : Int32).toNatClampNeg))) 99 ((σ.i 99) - 1)))) (kv7_ite (kv7_ite (kv7_bindv (kv7_st rfl (kr7_f_X12_closeAll N σ ((σ.i 99) - 1))) (fun p13 => (kv7_ite (kv7_bind (kr7_st rfl (kr7_f_X12_isCaught N p13 ((σ.i 99) - 1))) (fun p20 => (kv7_ite (kv7_ite (kv7_st rfl (hK (RS.setI p20.2 99 ((p20.2.i 99) - 1)))) (kv7_bind (kr7_st rfl (kr7_f_X12_finals N p20.2 ((σ.i 99) - 1))) (fun p24 => (kv7_ite (kv7_st rfl (hK (RS.setI p24.2 99 ((p24.2.i 99) - 1)))) (kv7_some rfl))))) (kv7_some rfl)))) (kv7_ite (kv7_st rfl (hK (RS.setI p13 99 ((p13.i 99) - 1)))) (kv7_bind (kr7_st rfl (kr7_f_X12_finals N p13 ((σ.i 99) - 1))) (fun p17 => (kv7_ite (kv7_st rfl (hK (RS.setI p17.2 99 ((p17.2.i 99) - 1)))) (kv7_some rfl)))))))) (kv7_ite (kv7_st rfl (hK (RS.setI σ 99 ((σ.i 99) - 1)))) (kv7_bind (kr7_st rfl (kr7_f_X12_finals N σ ((σ.i 99) - 1))) (fun p10 => (kv7_ite (kv7_st rfl (hK (RS.setI p10.2 99 ((p10.2.i 99) - 1)))) (kv7_some rfl)))))) (kv7_st rfl (hK (RS.setI σ 99 ((σ.i 99) - 1))))))) kv7_none)) (kv7_ite (kv7_ite (kv7_ite (kv7_bindv (kv7_st rfl (kr7_f_X12_put N (RS.setI (RS.setI σ 99 ((σ.i 99) - 1)) 93 (σ.a 104 ((((σ.i 99) - 1) : Int32).toNatClampNeg))) (σ.i 113))) (fun p64 => (kv7_ite (kv7_ite (kv7_some rfl) kv7_none) kv7_none))) kv7_none) (kv7_ite (kv7_ite (kv7_bindv (kv7_st rfl (kr7_f_X12_row N σ 4 (σ.a 101 ((((σ.i 99) - 1) : Int32).toNatClampNeg)))) (fun p91 => (kv7_ite (kv7_st rfl (hK (RS.setI (RS.setA p91 91 (((p91.a 101 ((((σ.i 99) - 1) : Int32).toNatClampNeg)) : Int32).toNatClampNeg) ((p91.a 91 (((p91.a 101 ((((σ.i 99) - 1) : Int32).toNatClampNeg)) : Int32).toNatClampNeg)) - 1)) 99 ((p91.i 99) - 1)))) kv7_none))) (kv7_ite (kv7_st rfl (hK (RS.setI (RS.setI σ 97 (σ.a 101 ((((σ.i 99) - 1) : Int32).toNatClampNeg))) 99 ((σ.i 99) - 1)))) (kv7_ite (kv7_ite (kv7_bindv (kv7_st rfl (kr7_f_X12_closeAll N σ ((σ.i 99) - 1))) (fun p77 => (kv7_ite (kv7_bind (kr7_st rfl (kr7_f_X12_isCaught N p77 ((σ.i 99) - 1))) (fun p84 => (kv7_ite (kv7_ite (kv7_st rfl (hK (RS.setI p84.2 99 ((p84.2.i 99) - 1)))) (kv7_bind (kr7_st rfl (kr7_f_X12_finals N p84.2 ((σ.i 99) - 1))) (fun p88 => (kv7_ite (kv7_st rfl (hK (RS.setI p88.2 99 ((p88.2.i 99) - 1)))) (kv7_some rfl))))) (kv7_some rfl)))) (kv7_ite (kv7_st rfl (hK (RS.setI p77 99 ((p77.i 99) - 1)))) (kv7_bind (kr7_st rfl (kr7_f_X12_finals N p77 ((σ.i 99) - 1))) (fun p81 => (kv7_ite (kv7_st rfl (hK (RS.setI p81.2 99 ((p81.2.i 99) - 1)))) (kv7_some rfl)))))))) (kv7_ite (kv7_st rfl (hK (RS.setI σ 99 ((σ.i 99) - 1)))) (kv7_bind (kr7_st rfl (kr7_f_X12_finals N σ ((σ.i 99) - 1))) (fun p74 => (kv7_ite (kv7_st rfl (hK (RS.setI p74.2 99 ((p74.2.i 99) - 1)))) (kv7_some rfl)))))) (kv7_st rfl (hK (RS.setI σ 99 ((σ.i 99) - 1))))))) kv7_none)) (kv7_ite (kv7_some rfl) (kv7_ite (kv7_ite (kv7_bindv (kv7_st rfl (kr7_f_X12_row N σ 4 (σ.a 101 ((((σ.i 99) - 1) : Int32).toNatClampNeg)))) (fun p57 => (kv7_ite (kv7_st rfl (hK (RS.setI (RS.setA p57 91 (((p57.a 101 ((((σ.i 99) - 1) : Int32).toNatClampNeg)) : Int32).toNatClampNeg) ((p57.a 91 (((p57.a 101 ((((σ.i 99) - 1) : Int32).toNatClampNeg)) : Int32).toNatClampNeg)) - 1)) 99 ((p57.i 99) - 1)))) kv7_none))) (kv7_ite (kv7_st rfl (hK (RS.setI (RS.setI σ 97 (σ.a 101 ((((σ.i 99) - 1) : Int32).toNatClampNeg))) 99 ((σ.i 99) - 1)))) (kv7_ite (kv7_ite (kv7_bindv (kv7_st rfl (kr7_f_X12_closeAll N σ ((σ.i 99) - 1))) (fun p43 => (kv7_ite (kv7_bind (kr7_st rfl (kr7_f_X12_isCaught N p43 ((σ.i 99) - 1))) (fun p50 => (kv7_ite (kv7_ite (kv7_st rfl (hK (RS.setI p50.2 99 ((p50.2.i 99) - 1)))) (kv7_bind (kr7_st rfl (kr7_f_X12_finals N p50.2 ((σ.i 99) - 1))) (fun p54 => (kv7_ite (kv7_st rfl (hK (RS.setI p54.2 99 ((p54.2.i 99) - 1)))) (kv7_some rfl))))) (kv7_some rfl)))) (kv7_ite (kv7_st rfl (hK (RS.setI p43 99 ((p43.i 99) - 1)))) (kv7_bind (kr7_st rfl (kr7_f_X12_finals N p43 ((σ.i 99) - 1))) (fun p47 => (kv7_ite (kv7_st rfl (hK (RS.setI p47.2 99 ((p47.2.i 99) - 1)))) (kv7_some rfl)))))))) (kv7_ite (kv7_st rfl (hK (RS.setI σ 99 ((σ.i 99) - 1)))) (kv7_bind (kr7_st rfl (kr7_f_X12_finals N σ ((σ.i 99) - 1))) (fun p40 => (kv7_ite (kv7_st rfl (hK (RS.setI p40.2 99 ((p40.2.i 99) - 1)))) (kv7_some rfl)))))) (kv7_st rfl (hK (RS.setI σ 99 ((σ.i 99) - 1))))))) kv7_none))))
theorem kr7_f_X12_leave_0 (N : Nat) : ∀ (n : Nat) (σ : RS), KV7 σ (f_X12_leave_0 N n σ )
  | 0, _ => kv7_none
  | n+1, σ => kr7_b_X12_leave_0 N (f_X12_leave_0 N n) (fun σ => kr7_f_X12_leave_0 N n σ) σ
theorem kr7_f_X12_leave (N : Nat) (σ : RS) : KV7 σ (f_X12_leave N σ) := by
  unfold f_X12_leave
  exact (kv7_st rfl (kr7_f_X12_leave_0 N N σ))
theorem kr7_f_X12_step (N : Nat) (σ : RS) : KV7 σ (f_X12_step N σ) := by
  unfold f_X12_step
  exact (kv7_ite (kv7_some rfl) (kv7_some rfl))
theorem kr7_f_X12_compute (N : Nat) (σ : RS) (x1 : Int32) (x2 : Int32) (x3 : Int32) : KR7 σ (f_X12_compute N σ x1 x2 x3) := by
  unfold f_X12_compute
  exact (kr7_ite (kr7_ite kr7_none (kr7_some rfl)) (kr7_ite (kr7_some rfl) (kr7_ite (kr7_some rfl) (kr7_ite (kr7_some rfl) (kr7_ite (kr7_ite kr7_none (kr7_some rfl)) (kr7_ite (kr7_ite (kr7_some rfl) (kr7_some rfl)) (kr7_ite (kr7_ite (kr7_some rfl) (kr7_some rfl)) (kr7_ite (kr7_ite (kr7_some rfl) (kr7_some rfl)) (kr7_ite (kr7_ite (kr7_some rfl) (kr7_some rfl)) (kr7_ite (kr7_ite (kr7_some rfl) (kr7_some rfl)) (kr7_ite (kr7_some rfl) (kr7_some rfl))))))))))))
theorem kr7_b_X12_caseOf_5 (N : Nat) (K : RS → Int32 → Int32 → Int32 → Option (Int32 × RS)) (hK : ∀ (σ : RS) (y0 : Int32) (y1 : Int32) (y2 : Int32), KR7 σ (K σ y0 y1 y2)) (σ : RS) (x2 : Int32) (x3 : Int32) (x4 : Int32) : KR7 σ (b_X12_caseOf_5 N K σ x2 x3 x4) := by
  unfold b_X12_caseOf_5
  exact (kr7_ite (kr7_some rfl) (kr7_ite (kr7_ite (kr7_ite (kr7_some rfl) (kr7_st rfl (hK σ x2 x3 (σ.a 27 ((x4 : Int32).toNatClampNeg))))) (kr7_st rfl (hK σ x2 x4 (σ.a 27 ((x4 : Int32).toNatClampNeg))))) kr7_none))
theorem kr7_f_X12_caseOf_5 (N : Nat) : ∀ (n : Nat) (σ : RS) (y0 : Int32) (y1 : Int32) (y2 : Int32), KR7 σ (f_X12_caseOf_5 N n σ y0 y1 y2)
  | 0, _, _, _, _ => kr7_none
  | n+1, σ, y0, y1, y2 => kr7_b_X12_caseOf_5 N (f_X12_caseOf_5 N n) (fun σ y0 y1 y2 => kr7_f_X12_caseOf_5 N n σ y0 y1 y2) σ y0 y1 y2
theorem kr7_f_X12_caseOf (N : Nat) (σ : RS) (x1 : Int32) (x2 : Int32) : KR7 σ (f_X12_caseOf N σ x1 x2) := by
  unfold f_X12_caseOf
  exact (kr7_st rfl (kr7_f_X12_caseOf_5 N N σ x2 (-1) x1))
theorem kr7_f_X12_goOn (N : Nat) (σ : RS) (x1 : Int32) : KV7 σ (f_X12_goOn N σ x1) := by
  unfold f_X12_goOn
  exact (kv7_bind (kr7_st rfl (kr7_f_X12_finals N σ x1)) (fun p1 => (kv7_ite (kv7_ite (kv7_ite (kv7_some rfl) kv7_none) kv7_none) (kv7_some rfl))))
theorem kr7_b_X12_others_85 (N : Nat) (K : RS → Int32 → Int32 → Int32 → Option (RS)) (hK : ∀ (σ : RS) (y0 : Int32) (y1 : Int32) (y2 : Int32), KV7 σ (K σ y0 y1 y2)) (σ : RS) (x2 : Int32) (x4 : Int32) (x5 : Int32) : KV7 σ (b_X12_others_85 N K σ x2 x4 x5) := by
  unfold b_X12_others_85
  exact (kv7_ite (kv7_bind (kr7_st rfl (kr7_f_X12_record N (RS.setI σ 93 ((σ.i 93) - x2)) 2 x4 x4 (σ.i 97))) (fun p4 => (kv7_some rfl))) (kv7_ite (kv7_ite (kv7_st rfl (hK (RS.setI (RS.setA σ 98 (((σ.i 97) : Int32).toNatClampNeg) (σ.a 94 (((((σ.i 93) - x2) + x5) : Int32).toNatClampNeg))) 97 ((σ.i 97) + 1)) x2 x4 (x5 + 1))) kv7_none) kv7_none))
theorem kr7_f_X12_others_85 (N : Nat) : ∀ (n : Nat) (σ : RS) (y0 : Int32) (y1 : Int32) (y2 : Int32), KV7 σ (f_X12_others_85 N n σ y0 y1 y2)
  | 0, _, _, _, _ => kv7_none
  | n+1, σ, y0, y1, y2 => kr7_b_X12_others_85 N (f_X12_others_85 N n) (fun σ y0 y1 y2 => kr7_f_X12_others_85 N n σ y0 y1 y2) σ y0 y1 y2
theorem kr7_f_X12_others (N : Nat) (σ : RS) (x1 : Int32) (x2 : Int32) : KV7 σ (f_X12_others N σ x1 x2) := by
  unfold f_X12_others
  exact (kv7_ite (kv7_ite (kv7_st rfl (kr7_f_X12_others_85 N N σ x2 (σ.i 97) 0)) (kv7_ite (kv7_ite (kv7_ite (kv7_some rfl) (kv7_bindv (kv7_st rfl (kr7_f_X12_step N σ)) (fun p11 => (kv7_ite (kv7_ite (kv7_some rfl) kv7_none) kv7_none)))) kv7_none) (kv7_ite (kv7_ite (kv7_some rfl) kv7_none) (kv7_ite (kv7_ite (kv7_ite (kv7_some rfl) (kv7_bindv (kv7_st rfl (kr7_f_X12_leave N (RS.setI (RS.setI (RS.setI (RS.setI (RS.setI (RS.setI σ 110 (σ.a 105 ((((σ.i 99) - 1) : Int32).toNatClampNeg))) 111 (σ.a 106 ((((σ.i 99) - 1) : Int32).toNatClampNeg))) 112 (σ.a 107 ((((σ.i 99) - 1) : Int32).toNatClampNeg))) 113 (σ.a 108 ((((σ.i 99) - 1) : Int32).toNatClampNeg))) 114 (σ.a 109 ((((σ.i 99) - 1) : Int32).toNatClampNeg))) 99 ((σ.i 99) - 1)))) (fun p20 => (kv7_some rfl)))) kv7_none) (kv7_ite (kv7_ite (kv7_ite (kv7_some rfl) (kv7_bindv (kv7_st rfl (kr7_f_X12_leave N (RS.setI (RS.setI (RS.setI (RS.setI (RS.setI (RS.setI σ 110 (σ.a 105 ((((σ.i 99) - 1) : Int32).toNatClampNeg))) 111 (σ.a 106 ((((σ.i 99) - 1) : Int32).toNatClampNeg))) 112 (σ.a 107 ((((σ.i 99) - 1) : Int32).toNatClampNeg))) 113 (σ.a 108 ((((σ.i 99) - 1) : Int32).toNatClampNeg))) 114 (σ.a 109 ((((σ.i 99) - 1) : Int32).toNatClampNeg))) 99 ((σ.i 99) - 1)))) (fun p25 => (kv7_some rfl)))) kv7_none) (kv7_ite (kv7_ite (kv7_ite (kv7_some rfl) (kv7_bindv (kv7_st rfl (kr7_f_X12_leave N (RS.setI (RS.setI (RS.setI (RS.setI (RS.setI (RS.setI σ 110 (σ.a 105 ((((σ.i 99) - 1) : Int32).toNatClampNeg))) 111 (σ.a 106 ((((σ.i 99) - 1) : Int32).toNatClampNeg))) 112 (σ.a 107 ((((σ.i 99) - 1) : Int32).toNatClampNeg))) 113 (σ.a 108 ((((σ.i 99) - 1) : Int32).toNatClampNeg))) 114 (σ.a 109 ((((σ.i 99) - 1) : Int32).toNatClampNeg))) 99 ((σ.i 99) - 1)))) (fun p30 => (kv7_some rfl)))) kv7_none) (kv7_ite (kv7_ite (kv7_ite (kv7_some rfl) (kv7_bindv (kv7_st rfl (kr7_f_X12_leave N (RS.setI (RS.setI (RS.setI (RS.setI (RS.setI (RS.setI σ 110 (σ.a 105 ((((σ.i 99) - 1) : Int32).toNatClampNeg))) 111 (σ.a 106 ((((σ.i 99) - 1) : Int32).toNatClampNeg))) 112 (σ.a 107 ((((σ.i 99) - 1) : Int32).toNatClampNeg))) 113 (σ.a 108 ((((σ.i 99) - 1) : Int32).toNatClampNeg))) 114 (σ.a 109 ((((σ.i 99) - 1) : Int32).toNatClampNeg))) 99 ((σ.i 99) - 1)))) (fun p35 => (kv7_some rfl)))) kv7_none) (kv7_ite (kv7_ite (kv7_ite (kv7_some rfl) (kv7_bindv (kv7_st rfl (kr7_f_X12_leave N (RS.setI (RS.setI (RS.setI (RS.setI (RS.setI (RS.setI σ 110 (σ.a 105 ((((σ.i 99) - 1) : Int32).toNatClampNeg))) 111 (σ.a 106 ((((σ.i 99) - 1) : Int32).toNatClampNeg))) 112 (σ.a 107 ((((σ.i 99) - 1) : Int32).toNatClampNeg))) 113 (σ.a 108 ((((σ.i 99) - 1) : Int32).toNatClampNeg))) 114 (σ.a 109 ((((σ.i 99) - 1) : Int32).toNatClampNeg))) 99 ((σ.i 99) - 1)))) (fun p40 => (kv7_some rfl)))) kv7_none) (kv7_ite (kv7_bind (kr7_st rfl (kr7_f_X12_record N σ 4 x2 0 (σ.i 95))) (fun p43 => (kv7_some rfl))) (kv7_ite (kv7_ite (kv7_ite (kv7_ite (kv7_bindv (kv7_st rfl (kr7_f_X12_row N σ 1 x2)) (fun p49 => (kv7_ite (kv7_some rfl) kv7_none))) (kv7_some rfl)) (kv7_bindv (kv7_st rfl (kr7_f_X12_raise N σ ((σ.a 6 ((x2 : Int32).toNatClampNeg)) - 1) x2)) (fun p52 => (kv7_bindv (kv7_st rfl (kr7_f_X12_leave N p52)) (fun p54 => (kv7_some rfl)))))) kv7_none) (kv7_ite (kv7_bindv (kv7_st rfl (kr7_f_X12_closeAll N (RS.setI σ 110 0) ((σ.i 99) - 1))) (fun p57 => (kv7_ite (kv7_bindv (kv7_st rfl (kr7_f_X12_leave N p57)) (fun p62 => (kv7_some rfl))) (kv7_bindv (kv7_st rfl (kr7_f_X12_goOn N p57 ((σ.i 99) - 1))) (fun p60 => (kv7_some rfl)))))) (kv7_ite (kv7_bindv (kv7_st rfl (kr7_f_X12_goOn N (RS.setI σ 110 0) ((σ.i 99) - 1))) (fun p65 => (kv7_some rfl))) (kv7_ite (kv7_ite (kv7_some rfl) (kv7_bindv (kv7_st rfl (kr7_f_X12_leave N (RS.setI (RS.setI (RS.setI (RS.setI (RS.setI (RS.setI σ 110 (σ.a 105 ((((σ.i 99) - 1) : Int32).toNatClampNeg))) 111 (σ.a 106 ((((σ.i 99) - 1) : Int32).toNatClampNeg))) 112 (σ.a 107 ((((σ.i 99) - 1) : Int32).toNatClampNeg))) 113 (σ.a 108 ((((σ.i 99) - 1) : Int32).toNatClampNeg))) 114 (σ.a 109 ((((σ.i 99) - 1) : Int32).toNatClampNeg))) 99 ((σ.i 99) - 1)))) (fun p69 => (kv7_some rfl)))) kv7_none))))))))))))) kv7_none)
theorem kr7_f_X12_ends_128 (N : Nat) (σ : RS) (x1 : Int32) : KV7 σ (f_X12_ends_128 N σ x1) := by
  unfold f_X12_ends_128
  exact (kv7_ite (kv7_bindv (kv7_st rfl (kr7_f_X12_leave N (RS.setI σ 112 (σ.a 23 ((x1 : Int32).toNatClampNeg))))) (fun p7 => (kv7_some rfl))) kv7_none)
theorem kr7_f_X12_ends_242 (N : Nat) (σ : RS) : KV7 σ (f_X12_ends_242 N σ) := by
  unfold f_X12_ends_242
  exact (kv7_some rfl)
theorem kr7_f_X12_ends_351 (N : Nat) (σ : RS) : KV7 σ (f_X12_ends_351 N σ) := by
  unfold f_X12_ends_351
  exact (kv7_some rfl)
theorem kr7_f_X12_ends (N : Nat) (σ : RS) (x1 : Int32) (x2 : Int32) : KV7 σ (f_X12_ends N σ x1 x2) := by
  unfold f_X12_ends
  exact (kv7_ite (kv7_ite (kv7_bind (kr7_st rfl (kr7_f_X12_take N σ)) (fun p3 => (kv7_ite (kv7_st rfl (kr7_f_X12_ends_128 N (RS.setI (RS.setI p3.2 113 p3.1) 110 2) x1)) (kv7_st rfl (kr7_f_X12_ends_128 N (RS.setI (RS.setI p3.2 113 p3.1) 110 4) x1))))) (kv7_ite (kv7_bind (kr7_st rfl (kr7_f_X12_take N σ)) (fun p10 => (kv7_ite (kv7_st rfl (kr7_f_X12_ends_128 N (RS.setI (RS.setI p10.2 113 p10.1) 110 2) x1)) (kv7_st rfl (kr7_f_X12_ends_128 N (RS.setI (RS.setI p10.2 113 p10.1) 110 4) x1))))) (kv7_ite (kv7_bind (kr7_st rfl (kr7_f_X12_take N σ)) (fun p14 => (kv7_bindv (kv7_st rfl (kr7_f_X12_raise N p14.2 x2 p14.1)) (fun p16 => (kv7_bindv (kv7_st rfl (kr7_f_X12_leave N p16)) (fun p18 => (kv7_some rfl))))))) (kv7_ite (kv7_bindv (kv7_st rfl (kr7_f_X12_raise N σ x2 0)) (fun p21 => (kv7_bindv (kv7_st rfl (kr7_f_X12_leave N p21)) (fun p23 => (kv7_some rfl))))) (kv7_ite (kv7_ite (kv7_bindv (kv7_st rfl (kr7_f_X12_leave N (RS.setI (RS.setI σ 114 (σ.a 84 ((x2 : Int32).toNatClampNeg))) 110 3))) (fun p27 => (kv7_some rfl))) kv7_none) (kv7_ite (kv7_ite (kv7_st rfl (kr7_f_X12_ends_242 N (RS.setI σ 92 x2))) (kv7_st rfl (kr7_f_X12_ends_242 N (RS.setI σ 92 (σ.i 92))))) (kv7_ite (kv7_bindv (kv7_st rfl (kr7_f_X12_others N σ x1 x2)) (fun p32 => (kv7_some rfl))) (kv7_ite (kv7_bindv (kv7_st rfl (kr7_f_X12_others N σ x1 x2)) (fun p35 => (kv7_some rfl))) (kv7_ite (kv7_bindv (kv7_st rfl (kr7_f_X12_others N σ x1 x2)) (fun p38 => (kv7_some rfl))) (kv7_ite (kv7_bindv (kv7_st rfl (kr7_f_X12_row N σ 3 x2)) (fun p41 => (kv7_ite (kv7_bind (kr7_st rfl (kr7_f_X12_record N (RS.setA p41 91 ((x2 : Int32).toNatClampNeg) ((p41.a 91 ((x2 : Int32).toNatClampNeg)) + 1)) 1 x2 0 0)) (fun p44 => (kv7_some rfl))) kv7_none))) (kv7_ite (kv7_ite (kv7_bindv (kv7_st rfl (kr7_f_X12_row N (RS.setI σ 99 ((σ.i 99) - 1)) 4 (σ.a 101 ((((σ.i 99) - 1) : Int32).toNatClampNeg)))) (fun p48 => (kv7_ite (kv7_ite (kv7_some rfl) kv7_none) kv7_none))) kv7_none) (kv7_ite (kv7_bind (kr7_st rfl (kr7_f_X12_take N σ)) (fun p53 => (kv7_bind (kr7_st rfl (kr7_f_X12_caseOf N p53.2 x2 p53.1)) (fun p55 => (kv7_ite (kv7_ite (kv7_st rfl (kr7_f_X12_ends_351 N (RS.setI p55.2 92 (p55.2.a 26 ((p55.1 : Int32).toNatClampNeg))))) kv7_none) (kv7_st rfl (kr7_f_X12_ends_351 N (RS.setI p55.2 92 (p55.2.a 23 ((x1 : Int32).toNatClampNeg)))))))))) (kv7_ite (kv7_bind (kr7_st rfl (kr7_f_X12_take N σ)) (fun p60 => (kv7_bind (kr7_st rfl (kr7_f_X12_caseOf N p60.2 x2 p60.1)) (fun p62 => (kv7_bind (kr7_st rfl (kr7_f_X12_record N p62.2 3 x1 0 0)) (fun p64 => (kv7_ite (kv7_some rfl) kv7_none))))))) (kv7_ite (kv7_ite (kv7_ite (kv7_some rfl) kv7_none) kv7_none) (kv7_ite (kv7_bindv (kv7_st rfl (kr7_f_X12_others N σ x1 x2)) (fun p71 => (kv7_some rfl))) (kv7_ite (kv7_bindv (kv7_st rfl (kr7_f_X12_others N σ x1 x2)) (fun p74 => (kv7_some rfl))) (kv7_ite (kv7_bindv (kv7_st rfl (kr7_f_X12_others N σ x1 x2)) (fun p77 => (kv7_some rfl))) (kv7_ite (kv7_bindv (kv7_st rfl (kr7_f_X12_others N σ x1 x2)) (fun p80 => (kv7_some rfl))) (kv7_ite (kv7_bindv (kv7_st rfl (kr7_f_X12_others N σ x1 x2)) (fun p83 => (kv7_some rfl))) (kv7_ite (kv7_bindv (kv7_st rfl (kr7_f_X12_leave N (RS.setI (RS.setI (RS.setI σ 110 1) 111 x2) 112 (σ.a 23 ((x1 : Int32).toNatClampNeg))))) (fun p86 => (kv7_some rfl))) (kv7_bindv (kv7_st rfl (kr7_f_X12_others N σ x1 x2)) (fun p88 => (kv7_some rfl))))))))))))))))))))))) kv7_none)
theorem kr7_f_X12_act_229 (N : Nat) (σ : RS) (x2 : Int32) (x3 : Int32) (x4 : Int32) : KV7 σ (f_X12_act_229 N σ x2 x3 x4) := by
  unfold f_X12_act_229
  exact (kv7_bind (kr7_st rfl (kr7_f_X12_compute N σ x2 x4 x3)) (fun p35 => (kv7_bindv (kv7_st rfl (kr7_f_X12_put N p35.2 p35.1)) (fun p37 => (kv7_some rfl)))))
theorem kr7_f_X12_act_212 (N : Nat) (σ : RS) (x2 : Int32) (x3 : Int32) (x4 : Int32) : KV7 σ (f_X12_act_212 N σ x2 x3 x4) := by
  unfold f_X12_act_212
  exact (kv7_ite (kv7_bindv (kv7_st rfl (kr7_f_X12_raise N σ 2 0)) (fun p39 => (kv7_bindv (kv7_st rfl (kr7_f_X12_leave N p39)) (fun p41 => (kv7_some rfl))))) (kv7_st rfl (kr7_f_X12_act_229 N σ x2 x3 x4)))
theorem kr7_f_X12_act_290 (N : Nat) (σ : RS) : KV7 σ (f_X12_act_290 N σ) := by
  unfold f_X12_act_290
  exact (kv7_some rfl)
theorem kr7_f_X12_act_282 (N : Nat) (σ : RS) (x2 : Int32) : KV7 σ (f_X12_act_282 N σ x2) := by
  unfold f_X12_act_282
  exact (kv7_some rfl)
theorem kr7_f_X12_act_322 (N : Nat) (σ : RS) : KV7 σ (f_X12_act_322 N σ) := by
  unfold f_X12_act_322
  exact (kv7_some rfl)
theorem kr7_f_X12_act_344 (N : Nat) (σ : RS) : KV7 σ (f_X12_act_344 N σ) := by
  unfold f_X12_act_344
  exact (kv7_some rfl)
theorem kr7_f_X12_act (N : Nat) (σ : RS) (x1 : Int32) : KV7 σ (f_X12_act N σ x1) := by
  unfold f_X12_act
  exact (kv7_ite (kv7_ite (kv7_bindv (kv7_st rfl (kr7_f_X12_step N σ)) (fun p3 => (kv7_some rfl))) (kv7_ite (kv7_bindv (kv7_st rfl (kr7_f_X12_put N σ (σ.a 22 ((x1 : Int32).toNatClampNeg)))) (fun p6 => (kv7_some rfl))) (kv7_ite (kv7_ite (kv7_bindv (kv7_st rfl (kr7_f_X12_put N σ (σ.a 84 (((σ.a 22 ((x1 : Int32).toNatClampNeg)) : Int32).toNatClampNeg)))) (fun p10 => (kv7_some rfl))) kv7_none) (kv7_ite (kv7_ite (kv7_ite (kv7_bindv (kv7_st rfl (kr7_f_X12_put N σ (σ.a 87 (((σ.a 84 (((σ.a 22 ((x1 : Int32).toNatClampNeg)) : Int32).toNatClampNeg)) : Int32).toNatClampNeg)))) (fun p15 => (kv7_some rfl))) kv7_none) kv7_none) (kv7_ite (kv7_bind (kr7_st rfl (kr7_f_X12_take N σ)) (fun p18 => (kv7_ite (kv7_some rfl) kv7_none))) (kv7_ite (kv7_ite (kv7_some rfl) kv7_none) (kv7_ite (kv7_bind (kr7_st rfl (kr7_f_X12_take N σ)) (fun p24 => (kv7_bindv (kv7_st rfl (kr7_f_X12_put N p24.2 (-p24.1))) (fun p26 => (kv7_some rfl))))) (kv7_ite (kv7_bind (kr7_st rfl (kr7_f_X12_take N σ)) (fun p29 => (kv7_bind (kr7_st rfl (kr7_f_X12_take N p29.2)) (fun p31 => (kv7_ite (kv7_st rfl (kr7_f_X12_act_212 N p31.2 (σ.a 22 ((x1 : Int32).toNatClampNeg)) p29.1 p31.1)) (kv7_ite (kv7_st rfl (kr7_f_X12_act_212 N p31.2 (σ.a 22 ((x1 : Int32).toNatClampNeg)) p29.1 p31.1)) (kv7_st rfl (kr7_f_X12_act_229 N p31.2 (σ.a 22 ((x1 : Int32).toNatClampNeg)) p29.1 p31.1)))))))) (kv7_ite (kv7_bind (kr7_st rfl (kr7_f_X12_take N σ)) (fun p45 => (kv7_bind (kr7_st rfl (kr7_f_X12_take N p45.2)) (fun p47 => (kv7_ite (kv7_st rfl (kr7_f_X12_act_212 N p47.2 (σ.a 22 ((x1 : Int32).toNatClampNeg)) p45.1 p47.1)) (kv7_ite (kv7_st rfl (kr7_f_X12_act_212 N p47.2 (σ.a 22 ((x1 : Int32).toNatClampNeg)) p45.1 p47.1)) (kv7_st rfl (kr7_f_X12_act_229 N p47.2 (σ.a 22 ((x1 : Int32).toNatClampNeg)) p45.1 p47.1)))))))) (kv7_ite (kv7_bind (kr7_st rfl (kr7_f_X12_take N σ)) (fun p52 => (kv7_bindv (kv7_st rfl (kr7_f_X12_put N p52.2 (1 - p52.1))) (fun p54 => (kv7_some rfl))))) (kv7_ite (kv7_ite (kv7_ite (kv7_st rfl (kr7_f_X12_act_290 N σ)) (kv7_st rfl (kr7_f_X12_act_282 N σ (σ.a 22 ((x1 : Int32).toNatClampNeg))))) kv7_none) (kv7_ite (kv7_ite (kv7_ite (kv7_st rfl (kr7_f_X12_act_282 N σ (σ.a 22 ((x1 : Int32).toNatClampNeg)))) (kv7_st rfl (kr7_f_X12_act_290 N σ))) kv7_none) (kv7_ite (kv7_bind (kr7_st rfl (kr7_f_X12_take N σ)) (fun p67 => (kv7_ite (kv7_st rfl (kr7_f_X12_act_322 N (RS.setI p67.2 92 (σ.a 22 ((x1 : Int32).toNatClampNeg))))) (kv7_st rfl (kr7_f_X12_act_322 N (RS.setI p67.2 92 (p67.2.i 92))))))) (kv7_ite (kv7_bind (kr7_st rfl (kr7_f_X12_take N σ)) (fun p71 => (kv7_ite (kv7_st rfl (kr7_f_X12_act_344 N (RS.setI p71.2 92 (p71.2.i 92)))) (kv7_st rfl (kr7_f_X12_act_344 N (RS.setI p71.2 92 (σ.a 22 ((x1 : Int32).toNatClampNeg)))))))) (kv7_ite (kv7_some rfl) (kv7_ite (kv7_bind (kr7_st rfl (kr7_f_X12_take N σ)) (fun p76 => (kv7_bindv (kv7_st rfl (kr7_f_X12_row N p76.2 0 p76.1)) (fun p78 => (kv7_some rfl))))) (kv7_bindv (kv7_st rfl (kr7_f_X12_ends N σ x1 (σ.a 22 ((x1 : Int32).toNatClampNeg)))) (fun p80 => (kv7_some rfl))))))))))))))))))) kv7_none)
theorem kr7_f_X12_run_163 (N : Nat) (σ : RS) : KR7 σ (f_X12_run_163 N σ) := by
  unfold f_X12_run_163
  exact (kr7_ite (kr7_some rfl) (kr7_ite (kr7_some rfl) (kr7_ite (kr7_some rfl) (kr7_some rfl))))
theorem kr7_b_X12_run_122 (N : Nat) (K : RS → Option (Int32 × RS)) (hK : ∀ (σ : RS), KR7 σ (K σ)) (σ : RS) : KR7 σ (b_X12_run_122 N K σ) := by
  unfold b_X12_run_122
  exact (kr7_ite (kr7_st rfl (kr7_f_X12_run_163 N σ)) (kr7_ite (kr7_st rfl (kr7_f_X12_run_163 N σ)) (kr7_bindv (kv7_st rfl (kr7_f_X12_act N (RS.setI σ 92 ((σ.i 92) + 1)) (σ.i 92))) (fun p9 => (kr7_st rfl (hK p9))))))
theorem kr7_f_X12_run_122 (N : Nat) : ∀ (n : Nat) (σ : RS), KR7 σ (f_X12_run_122 N n σ )
  | 0, _ => kr7_none
  | n+1, σ => kr7_b_X12_run_122 N (f_X12_run_122 N n) (fun σ => kr7_f_X12_run_122 N n σ) σ
theorem kr7_b_X12_run_39 (N : Nat) (K : RS → Int32 → Int32 → Int32 → Option (Int32 × RS)) (hK : ∀ (σ : RS) (y0 : Int32) (y1 : Int32) (y2 : Int32), KR7 σ (K σ y0 y1 y2)) (σ : RS) (x1 : Int32) (x2 : Int32) (x3 : Int32) : KR7 σ (b_X12_run_39 N K σ x1 x2 x3) := by
  unfold b_X12_run_39
  exact (kr7_ite (kr7_st rfl (kr7_f_X12_run_122 N N (RS.setI (RS.setI (RS.setI (RS.setI (RS.setI (RS.setI (RS.setI (RS.setI (RS.setI (RS.setI (RS.setA (RS.setA σ 84 ((0 : Int32).toNatClampNeg) x1) 84 ((1 : Int32).toNatClampNeg) x2) 80 0) 81 0) 85 0) 95 0) 97 0) 99 0) 93 0) 79 1) 115 0) 92 0))) (kr7_ite (kr7_st rfl (hK (RS.setA σ 91 ((x3 : Int32).toNatClampNeg) 0) x1 x2 (x3 + 1))) kr7_none))
theorem kr7_f_X12_run_39 (N : Nat) : ∀ (n : Nat) (σ : RS) (y0 : Int32) (y1 : Int32) (y2 : Int32), KR7 σ (f_X12_run_39 N n σ y0 y1 y2)
  | 0, _, _, _, _ => kr7_none
  | n+1, σ, y0, y1, y2 => kr7_b_X12_run_39 N (f_X12_run_39 N n) (fun σ y0 y1 y2 => kr7_f_X12_run_39 N n σ y0 y1 y2) σ y0 y1 y2
theorem kr7_b_X12_run_17 (N : Nat) (K : RS → Int32 → Int32 → Int32 → Option (Int32 × RS)) (hK : ∀ (σ : RS) (y0 : Int32) (y1 : Int32) (y2 : Int32), KR7 σ (K σ y0 y1 y2)) (σ : RS) (x1 : Int32) (x2 : Int32) (x3 : Int32) : KR7 σ (b_X12_run_17 N K σ x1 x2 x3) := by
  unfold b_X12_run_17
  exact (kr7_ite (kr7_st rfl (kr7_f_X12_run_39 N N σ x1 x2 0)) (kr7_ite (kr7_st rfl (hK (RS.setA σ 84 ((x3 : Int32).toNatClampNeg) 0) x1 x2 (x3 + 1))) kr7_none))
theorem kr7_f_X12_run_17 (N : Nat) : ∀ (n : Nat) (σ : RS) (y0 : Int32) (y1 : Int32) (y2 : Int32), KR7 σ (f_X12_run_17 N n σ y0 y1 y2)
  | 0, _, _, _, _ => kr7_none
  | n+1, σ, y0, y1, y2 => kr7_b_X12_run_17 N (f_X12_run_17 N n) (fun σ y0 y1 y2 => kr7_f_X12_run_17 N n σ y0 y1 y2) σ y0 y1 y2
theorem kr7_f_X12_run (N : Nat) (σ : RS) (x1 : Int32) (x2 : Int32) : KR7 σ (f_X12_run N σ x1 x2) := by
  unfold f_X12_run
  exact (kr7_ite (kr7_some rfl) (kr7_st rfl (kr7_f_X12_run_17 N N (RS.setI σ 0 0) x1 x2 0)))
theorem kr7_b_X12_ran_168 (N : Nat) (K : RS → Int32 → Int32 → Option (Int32 × RS)) (hK : ∀ (σ : RS) (y0 : Int32) (y1 : Int32), KR7 σ (K σ y0 y1)) (σ : RS) (x3 : Int32) (x4 : Int32) : KR7 σ (b_X12_ran_168 N K σ x3 x4) := by
  unfold b_X12_ran_168
  exact (kr7_ite (kr7_some rfl) (kr7_ite (kr7_st rfl (hK σ (x3 + (σ.a 91 ((x4 : Int32).toNatClampNeg))) (x4 + 1))) kr7_none))
theorem kr7_f_X12_ran_168 (N : Nat) : ∀ (n : Nat) (σ : RS) (y0 : Int32) (y1 : Int32), KR7 σ (f_X12_ran_168 N n σ y0 y1)
  | 0, _, _, _ => kr7_none
  | n+1, σ, y0, y1 => kr7_b_X12_ran_168 N (f_X12_ran_168 N n) (fun σ y0 y1 => kr7_f_X12_ran_168 N n σ y0 y1) σ y0 y1
theorem kr7_f_X12_ran_41 (N : Nat) (σ : RS) (x1 : Int32) (x2 : Int32) : KR7 σ (f_X12_ran_41 N σ x1 x2) := by
  unfold f_X12_ran_41
  exact (kr7_ite (kr7_some rfl) (kr7_ite (kr7_some rfl) (kr7_ite (kr7_ite (kr7_some rfl) (kr7_some rfl)) (kr7_ite (kr7_ite (kr7_some rfl) (kr7_ite (kr7_some rfl) kr7_none)) (kr7_ite (kr7_ite (kr7_some rfl) (kr7_ite (kr7_some rfl) kr7_none)) (kr7_ite (kr7_ite (kr7_some rfl) (kr7_ite (kr7_some rfl) kr7_none)) (kr7_st rfl (kr7_f_X12_ran_168 N N σ 0 0))))))))
theorem kr7_f_X12_ran (N : Nat) (σ : RS) (x1 : Int32) : KR7 σ (f_X12_ran N σ x1) := by
  unfold f_X12_ran
  exact (kr7_bind (kr7_st rfl (kr7_f_X12_in N (RS.setI σ 0 0) x1 0 6)) (fun p1 => (kr7_ite (kr7_some rfl) (kr7_ite (kr7_some rfl) (kr7_ite (kr7_st rfl (kr7_f_X12_ran_41 N p1.2 x1 1)) (kr7_st rfl (kr7_f_X12_ran_41 N p1.2 x1 0)))))))
theorem kr7_f_X12_trace_35 (N : Nat) (σ : RS) : KR7 σ (f_X12_trace_35 N σ) := by
  unfold f_X12_trace_35
  exact (kr7_some rfl)
theorem kr7_f_X12_trace (N : Nat) (σ : RS) (x1 : Int32) (x2 : Int32) : KR7 σ (f_X12_trace N σ x1 x2) := by
  unfold f_X12_trace
  exact (kr7_ite (kr7_st rfl (kr7_f_X12_trace_35 N (RS.setI σ 0 0))) (kr7_bind (kr7_st rfl (kr7_f_X12_in N (RS.setI σ 0 0) x1 0 ((σ.i 81) - 1))) (fun p2 => (kr7_ite (kr7_st rfl (kr7_f_X12_trace_35 N p2.2)) (kr7_bind (kr7_st rfl (kr7_f_X12_in N p2.2 x2 0 1)) (fun p5 => (kr7_ite (kr7_st rfl (kr7_f_X12_trace_35 N p5.2)) (kr7_ite (kr7_ite (kr7_some rfl) kr7_none) (kr7_ite (kr7_some rfl) kr7_none)))))))))
theorem kr7_f_X12_suppressed_48 (N : Nat) (σ : RS) : KR7 σ (f_X12_suppressed_48 N σ) := by
  unfold f_X12_suppressed_48
  exact (kr7_some rfl)
theorem kr7_f_X12_suppressed (N : Nat) (σ : RS) (x1 : Int32) (x2 : Int32) : KR7 σ (f_X12_suppressed N σ x1 x2) := by
  unfold f_X12_suppressed
  exact (kr7_ite (kr7_st rfl (kr7_f_X12_suppressed_48 N (RS.setI σ 0 0))) (kr7_ite (kr7_ite (kr7_bind (kr7_st rfl (kr7_f_X12_in N (RS.setI σ 0 0) x1 0 ((σ.a 88 (((σ.i 114) : Int32).toNatClampNeg)) - 1))) (fun p4 => (kr7_ite (kr7_st rfl (kr7_f_X12_suppressed_48 N p4.2)) (kr7_bind (kr7_st rfl (kr7_f_X12_in N p4.2 x2 0 1)) (fun p7 => (kr7_ite (kr7_st rfl (kr7_f_X12_suppressed_48 N p7.2)) (kr7_ite (kr7_ite (kr7_some rfl) kr7_none) (kr7_ite (kr7_some rfl) kr7_none)))))))) kr7_none) (kr7_st rfl (kr7_f_X12_suppressed_48 N (RS.setI σ 0 0)))))
theorem kr7_f_X12_rounds_13 (N : Nat) (σ : RS) : KR7 σ (f_X12_rounds_13 N σ) := by
  unfold f_X12_rounds_13
  exact (kr7_some rfl)
theorem kr7_f_X12_rounds (N : Nat) (σ : RS) (x1 : Int32) (x2 : Int32) : KR7 σ (f_X12_rounds N σ x1 x2) := by
  unfold f_X12_rounds
  exact (kr7_ite (kr7_st rfl (kr7_f_X12_rounds_13 N (RS.setI σ 0 0))) (kr7_ite (kr7_ite (kr7_some rfl) (kr7_ite kr7_none (kr7_ite (kr7_some rfl) (kr7_some rfl)))) (kr7_st rfl (kr7_f_X12_rounds_13 N (RS.setI σ 0 0)))))
end
section
/-! both: the bytes that are fed -/
theorem b255 : ∀ i : Nat, i < 32 → ¬ i < 8 → (255#32).getLsbD i = false := by decide +kernel
theorem sh_bv (b : BitVec 32) (n : Nat) (hn : n ≤ 24) : b.sshiftRight n &&& 255#32 = b >>> n &&& 255#32 := by
  apply BitVec.eq_of_getLsbD_eq
  intro i hi
  rw [BitVec.getLsbD_and, BitVec.getLsbD_and, BitVec.getLsbD_sshiftRight, BitVec.getLsbD_ushiftRight]
  by_cases c : i < 8
  · rw [if_pos (by omega), decide_eq_false (show ¬ 32 ≤ i by omega)]
    rfl
  · rw [b255 i hi c, Bool.and_false, Bool.and_false]
def bC (x : Int32) (t : Nat) : Int32 := ((x.toUInt32 >>> ((Int32.ofNat t).toUInt32 &&& Int32.toUInt32 31)).toInt32 &&& 255)
def bR (x : Int32) (k : Nat) : Int32 := ((x >>> ((24 - (8 * (Int32.ofNat k - Int32.ofNat k / 4 * 4))) &&& 31)) &&& 255)
theorem sh_am : ∀ k : Nat, k < 20 → ((24 - (8 * (Int32.ofNat k - Int32.ofNat k / 4 * 4))) &&& 31).toBitVec.smod 32 = BitVec.ofNat 32 (8 * (3 - k % 4)) ∧ (BitVec.ofNat 32 (8 * (3 - k % 4))).toNat = 8 * (3 - k % 4) ∧ (((Int32.ofNat (8 * (3 - k % 4))).toUInt32 &&& Int32.toUInt32 31).toBitVec % 32).toNat = 8 * (3 - k % 4) := by decide +kernel
theorem b_eq (x : Int32) (k : Nat) (hk : k < 20) : bC x (8 * (3 - k % 4)) = bR x k := by
  obtain ⟨h1, h2, h3⟩ := sh_am k hk
  unfold bC bR
  apply Int32.toBitVec.inj
  rw [Int32.toBitVec_and, Int32.toBitVec_and, Int32.toBitVec_shiftRight, h1, UInt32.toBitVec_toInt32, UInt32.toBitVec_shiftRight, Int32.toBitVec_toUInt32]
  show x.toBitVec >>> (((Int32.ofNat (8 * (3 - k % 4))).toUInt32 &&& Int32.toUInt32 31).toBitVec % 32).toNat &&& 255#32 = x.toBitVec.sshiftRight (BitVec.ofNat 32 (8 * (3 - k % 4))).toNat &&& 255#32
  rw [h2, h3]
  exact (sh_bv _ _ (by omega)).symm
theorem sh_of : ∀ k : Nat, k < 4 → (Int32.ofNat (8 * k)).toInt = 8 * (k : Int) := by decide +kernel
/-- the class: one word -/
theorem fb_cls {N : Nat} {x1 : Int32} : ∀ (n : Nat) (s : CS) (x2 : Int32) (m p : Nat) (R : Unit × CS), x2.toInt = 8 * (m : Int) - 8 → m ≤ 4 → (s.i 5).toInt = (p : Int) → p + m ≤ 900 → f_X11_addBytes_3 N n s x1 x2 = some R → (R.2.i 5).toInt = ((p + m : Nat) : Int) ∧ (∀ j : Nat, j ≠ 5 → R.2.i j = s.i j) ∧ ∀ i : Nat, R.2.a 0 i = if p ≤ i ∧ i < p + m then bC x1 (8 * (m - 1 - (i - p))) else s.a 0 i
  | 0, _, _, _, _, _, _, _, _, _, e => by cases e
  | n + 1, s, x2, m, p, R, hx, hm, h5, hp, e => by
    have e' : b_X11_addBytes_3 N (f_X11_addBytes_3 N n) s x1 x2 = some R := e
    unfold b_X11_addBytes_3 at e'
    by_cases c : x2 < 0
    · have l := lt_int c
      rw [z_t0] at l
      have em : m = 0 := by omega
      rw [if_pos c] at e'
      rw [← Option.some.inj e', em]
      refine ⟨h5, fun _ _ => rfl, fun i => ?_⟩
      rw [if_neg (by omega)]
    · have l := le_int (Int32.not_lt.mp c)
      rw [z_t0] at l
      obtain ⟨k, rfl⟩ : ∃ k, m = k + 1 := ⟨m - 1, by omega⟩
      have e8 : (-8 : Int32).toInt = -8 := by decide
      have e1 : (1 : Int32).toInt = 1 := by decide
      have ex : (x2 + (-8)).toInt = 8 * (k : Int) - 8 := by rw [toInt_add] <;> rw [e8] <;> omega
      have e5 : (s.i 5 + 1).toInt = ((p + 1 : Nat) : Int) := by rw [toInt_add] <;> rw [e1] <;> omega
      have ek : x2 = Int32.ofNat (8 * k) := Int32.toInt_inj.mp (by rw [sh_of k (by omega)]; omega)
      rw [if_neg c, ek] at e'
      rw [ek] at ex
      have ib5 : ib (s.i 5) 900 := ⟨by omega, by omega⟩
      have en : (s.i 5).toNatClampNeg = p := by
        show (s.i 5).toInt.toNat = p
        rw [h5]
        exact Int.toNat_natCast _
      obtain ⟨Y, hY⟩ : ∃ Y, Y = CS.setI (CS.putA s 0 (gPut (s.a 0) 900 (s.i 5) (((x1 : Int32).toUInt32 >>> ((Int32.ofNat (8 * k)).toUInt32 &&& Int32.toUInt32 31)).toInt32 &&& 255))) 5 ((s.i 5) + 1) := ⟨_, rfl⟩
      rw [← hY] at e'
      have Y5 : (Y.i 5).toInt = ((p + 1 : Nat) : Int) := by rw [hY, ci_at]; exact e5
      have Yj : ∀ j : Nat, j ≠ 5 → Y.i j = s.i j := fun j hj => by
        rw [hY, ci_ne _ _ _ hj]
        rfl
      have Ya : ∀ i : Nat, Y.a 0 i = if i = p then bC x1 (8 * k) else s.a 0 i := fun i => by
        rw [hY]
        show gPut (s.a 0) 900 (s.i 5) (bC x1 (8 * k)) i = _
        unfold gPut
        rw [if_pos ib5, en]
        rfl
      clear hY
      obtain ⟨r1, r2, r3⟩ := fb_cls n Y _ k (p + 1) R ex (by omega) Y5 (by omega) e'
      refine ⟨by rw [r1]; omega, fun j hj => (r2 j hj).trans (Yj j hj), fun i => ?_⟩
      rw [r3 i, Ya i]
      by_cases c1 : p + 1 ≤ i ∧ i < p + 1 + k
      · rw [if_pos c1, if_pos (by omega), show k - 1 - (i - (p + 1)) = k + 1 - 1 - (i - p) by omega]
      · rw [if_neg c1]
        by_cases c2 : i = p
        · rw [if_pos c2, if_pos (by omega), c2, show k + 1 - 1 - (p - p) = k by omega]
        · rw [if_neg c2, if_neg (by omega)]
def sel5 (x1 x2 x3 x4 x5 : Int32) (j : Nat) : Int32 := if j < 4 then x1 else if j < 8 then x2 else if j < 12 then x3 else if j < 16 then x4 else x5
theorem fb_one {N : Nat} {x : Int32} {s : CS} {p : Nat} {R : Unit × CS} (h5 : (s.i 5).toInt = (p : Int)) (hp : p + 4 ≤ 900) (e : f_X11_addBytes N s x = some R) : (R.2.i 5).toInt = ((p + 4 : Nat) : Int) ∧ (∀ j : Nat, j ≠ 5 → R.2.i j = s.i j) ∧ ∀ i : Nat, R.2.a 0 i = if p ≤ i ∧ i < p + 4 then bC x (8 * (3 - (i - p))) else s.a 0 i := fb_cls N s 24 4 p R (by decide) (by omega) h5 hp e
theorem fd_cls {N : Nat} {s : CS} {x1 x2 x3 x4 x5 : Int32} {T : Int32 × CS} {p : Nat} (h5 : (s.i 5).toInt = (p : Int)) (hp : p + 20 ≤ 900) (e : f_X11_feed N s x1 x2 x3 x4 x5 = some T) : (∀ j : Nat, j ≠ 5 → T.2.i j = s.i j) ∧ ∀ i : Nat, T.2.a 0 i = if p ≤ i ∧ i < p + 20 then bC (sel5 x1 x2 x3 x4 x5 (i - p)) (8 * (3 - (i - p) % 4)) else s.a 0 i := by
  have e20 : (20 : Int32).toInt = 20 := by decide
  have e9 : (900 : Int32).toInt = 900 := by decide
  have e5 : (s.i 5 + 20).toInt = (s.i 5).toInt + 20 := by rw [toInt_add] <;> rw [e20] <;> omega
  unfold f_X11_feed at e
  rw [if_pos (Int32.le_iff_toInt_le.mpr (by rw [e5, e9]; omega))] at e
  obtain ⟨q1, g1, e⟩ := hf_bind e
  obtain ⟨q2, g2, e⟩ := hf_bind e
  obtain ⟨q3, g3, e⟩ := hf_bind e
  obtain ⟨q4, g4, e⟩ := hf_bind e
  obtain ⟨q5, g5, e⟩ := hf_bind e
  obtain ⟨a1, b1, c1⟩ := fb_one h5 (by omega) g1
  obtain ⟨a2, b2, c2⟩ := fb_one a1 (by omega) g2
  obtain ⟨a3, b3, c3⟩ := fb_one a2 (by omega) g3
  obtain ⟨a4, b4, c4⟩ := fb_one a3 (by omega) g4
  obtain ⟨-, b5, c5⟩ := fb_one a4 (by omega) g5
  have eT : T.2 = q5.2 := by rw [← Option.some.inj e]
  rw [eT]
  refine ⟨fun j hj => by rw [b5 j hj, b4 j hj, b3 j hj, b2 j hj, b1 j hj], fun i => ?_⟩
  rw [c5 i, c4 i, c3 i, c2 i, c1 i]
  unfold sel5
  by_cases w : p ≤ i ∧ i < p + 20
  · rw [if_pos w]
    by_cases w1 : i < p + 4
    · rw [if_neg (by omega), if_neg (by omega), if_neg (by omega), if_neg (by omega), if_pos (by omega), if_pos (by omega), show (i - p) % 4 = i - p by omega]
    · by_cases w2 : i < p + 8
      · rw [if_neg (by omega), if_neg (by omega), if_neg (by omega), if_pos (by omega), if_neg (by omega), if_pos (by omega), show (i - p) % 4 = i - (p + 4) by omega]
      · by_cases w3 : i < p + 12
        · rw [if_neg (by omega), if_neg (by omega), if_pos (by omega), if_neg (by omega), if_neg (by omega), if_pos (by omega), show (i - p) % 4 = i - (p + 4 + 4) by omega]
        · by_cases w4 : i < p + 16
          · rw [if_neg (by omega), if_pos (by omega), if_neg (by omega), if_neg (by omega), if_neg (by omega), if_pos (by omega), show (i - p) % 4 = i - (p + 4 + 4 + 4) by omega]
          · rw [if_pos (by omega), if_neg (by omega), if_neg (by omega), if_neg (by omega), if_neg (by omega), show (i - p) % 4 = i - (p + 4 + 4 + 4 + 4) by omega]
  · rw [if_neg w, if_neg (by omega), if_neg (by omega), if_neg (by omega), if_neg (by omega), if_neg (by omega)]
theorem of_k : ∀ k : Nat, k < 21 → (Int32.ofNat k).toInt = (k : Int) := by decide +kernel
theorem of_k1 : ∀ k : Nat, k < 20 → Int32.ofNat k + 1 = Int32.ofNat (k + 1) := by decide +kernel
/-- the reference: all of it -/
theorem fd_ref {N : Nat} {x1 x2 x3 x4 x5 : Int32} {p : Nat} (hp : p + 20 ≤ 900) : ∀ (n k : Nat) (r : RS) (U : Int32 × RS), k ≤ 20 → (r.i 2).toInt = (p : Int) → f_X12_feed_24 N n r x1 x2 x3 x4 x5 (Int32.ofNat k) = some U → (∀ j : Nat, j ≠ 2 → U.2.i j = r.i j) ∧ U.2.b = r.b ∧ ∀ i : Nat, U.2.a 1 i = if p + k ≤ i ∧ i < p + 20 then bR (sel5 x1 x2 x3 x4 x5 (i - p)) (i - p) else r.a 1 i
  | 0, _, _, _, _, _, g => by cases g
  | n + 1, k, r, U, hk, h2, g => by
    have g' : b_X12_feed_24 N (f_X12_feed_24 N n) r x1 x2 x3 x4 x5 (Int32.ofNat k) = some U := g
    unfold b_X12_feed_24 at g'
    have ok := of_k k (by omega)
    have e4 : (4 : Int32).toInt = 4 := by decide
    have e8 : (8 : Int32).toInt = 8 := by decide
    have e12 : (12 : Int32).toInt = 12 := by decide
    have e16 : (16 : Int32).toInt = 16 := by decide
    have e20 : (20 : Int32).toInt = 20 := by decide
    by_cases c : (20 : Int32) ≤ Int32.ofNat k
    · have l := le_int c
      rw [if_pos c] at g'
      rw [← Option.some.inj g']
      refine ⟨fun j hj => ri_ne hj, rfl, fun i => ?_⟩
      rw [if_neg (by omega)]
      rfl
    · have l : (k : Int) < 20 := by
        have := lt_int (Int32.not_le.mp c)
        omega
      have es : (r.i 2 + Int32.ofNat k).toInt = ((p + k : Nat) : Int) := by rw [toInt_add] <;> omega
      have en : (r.i 2 + Int32.ofNat k).toNatClampNeg = p + k := by
        show (r.i 2 + Int32.ofNat k).toInt.toNat = p + k
        rw [es]
        exact Int.toNat_natCast _
      have key : f_X12_feed_24 N n (RS.setA r 1 (p + k) (bR (sel5 x1 x2 x3 x4 x5 k) k)) x1 x2 x3 x4 x5 (Int32.ofNat (k + 1)) = some U := by
        rw [← of_k1 k (by omega)]
        rw [if_neg c, en] at g'
        unfold sel5 bR
        by_cases c4 : (4 : Int32) ≤ Int32.ofNat k
        · have l4 := le_int c4
          rw [if_pos c4] at g'
          rw [if_neg (show ¬ k < 4 by omega)]
          by_cases c8 : (8 : Int32) ≤ Int32.ofNat k
          · have l8 := le_int c8
            rw [if_pos c8] at g'
            rw [if_neg (show ¬ k < 8 by omega)]
            by_cases c12 : (12 : Int32) ≤ Int32.ofNat k
            · have l12 := le_int c12
              rw [if_pos c12] at g'
              rw [if_neg (show ¬ k < 12 by omega)]
              by_cases c16 : (16 : Int32) ≤ Int32.ofNat k
              · have l16 := le_int c16
                rw [if_pos c16] at g'
                rw [if_neg (show ¬ k < 16 by omega)]
                exact (hf_ite g').2
              · have l16 := lt_int (Int32.not_le.mp c16)
                rw [if_neg c16] at g'
                rw [if_pos (show k < 16 by omega)]
                exact (hf_ite g').2
            · have l12 := lt_int (Int32.not_le.mp c12)
              rw [if_neg c12] at g'
              rw [if_pos (show k < 12 by omega)]
              exact (hf_ite g').2
          · have l8 := lt_int (Int32.not_le.mp c8)
            rw [if_neg c8] at g'
            rw [if_pos (show k < 8 by omega)]
            exact (hf_ite g').2
        · have l4 := lt_int (Int32.not_le.mp c4)
          rw [if_neg c4] at g'
          rw [if_pos (show k < 4 by omega)]
          exact (hf_ite g').2
      obtain ⟨r1, r2, r3⟩ := fd_ref hp n (k + 1) (RS.setA r 1 (p + k) (bR (sel5 x1 x2 x3 x4 x5 k) k)) U (by omega) h2 key
      refine ⟨r1, r2, fun i => ?_⟩
      rw [r3 i]
      by_cases c1 : p + (k + 1) ≤ i ∧ i < p + 20
      · rw [if_pos c1, if_pos (by omega)]
      · rw [if_neg c1]
        by_cases c2 : i = p + k
        · rw [if_pos (by omega), c2, setA_at, show p + k - p = k by omega]
        · rw [if_neg (by omega)]
          exact setA_ne c2
end
