/-! both machines: places that belong together, and what stands there -/
def gcr (g : Nat) : Int := if g = 1 then 2 else 0
def gpo (g : Nat) : Int := if g = 1 then 1461 else 0
def BTP (s : CS) (h g : Nat) : Prop := 2 ≤ g → ∃ k : Nat, h = k + 1 ∧ (s.a 60 k = 0 ∨ s.a 60 k = 1) ∧ (g = 3 → s.a 60 k = 0) ∧ (g = 4 → s.a 60 k = 1)
/-- both stand at a place -/
def PTX (N H : Nat) (D : Nat → List Nat) (T : Int32 × CS) (s0 : CS) (r0 : RS) (nm : Nat → Nat → Prop) (AL : Als) (s : CS) (r : RS) (mu : Nat → Nat) (h p q w g : Nat) (c : List Ent) (x : Int32) : Prop := CRN N H D T s0 s x ∧ RFX r0 r ∧ SYN nm s r mu AL h p q c (-(gcr g)) ∧ BTP s h g ∧ AL p q h w g c ∧ x.toInt + fps c + w + gpo g ≤ 3990 * (r.i 80).toInt + 10000
/-- both ended alike -/
def FIE (T : Int32 × CS) (U : Int32 × RS) : Prop := RNZ T.2 U.2 ∧ T.1 = U.1
/-- later both stand at a place again, or both have ended -/
def NXTW (N H : Nat) (D : Nat → List Nat) (T : Int32 × CS) (s0 : CS) (r0 : RS) (nm : Nat → Nat → Prop) (AL : Als) (n : Nat) (U : Int32 × RS) : Prop := (∃ (m : Nat) (s : CS) (r : RS) (mu : Nat → Nat) (h p q w g : Nat) (c : List Ent) (x : Int32), m < n ∧ PTX N H D T s0 r0 nm AL s r mu h p q w g c x ∧ f_X12_run_122 N m r = some U) ∨ FIE T U
/-- the next place, a jump's place: so much dearer than what follows -/
def NXW (AL : Als) (p q h w n g : Nat) (c : List Ent) : Prop := ∃ w' : Nat, w' + n ≤ w ∧ AL p q h w' g c
def JX (s0 : CS) (AL : Als) (t x : Int32) (h w n g : Nat) (c : List Ent) : Prop := ∃ p q w' : Nat, ((cTg s0 t).toInt = (p : Int) ∧ x.toInt = (q : Int)) ∧ w' + n ≤ w ∧ AL p q h w' g c
theorem bud_x {N H : Nat} {D : Nat → List Nat} {T : Int32 × CS} {s0 : CS} {r0 : RS} {nm : Nat → Nat → Prop} {AL : Als} {s : CS} {r : RS} {mu : Nat → Nat} {h p q w g : Nat} {c : List Ent} {x : Int32} (pt : PTX N H D T s0 r0 nm AL s r mu h p q w g c x) : x.toInt + fps c + w ≤ 4000000 ∧ 0 ≤ x.toInt := by
  obtain ⟨p1, p2, ⟨⟨-, -, p3, -⟩, -⟩, -, -, p6⟩ := pt
  have q := p3.1.2.2
  have : 0 ≤ gpo g := by
    unfold gpo
    by_cases z : g = 1
    · rw [if_pos z]
      decide
    · rw [if_neg z]
      exact Int.le_refl _
  exact ⟨by omega, p1.2.2.1.1⟩
/-- one instruction of each -/
theorem pt_tick {N H n : Nat} (hN : 10000000000 ≤ N) {D : Nat → List Nat} {T : Int32 × CS} {s0 : CS} {r0 : RS} {nm : Nat → Nat → Prop} {AL : Als} {s : CS} {r : RS} {mu : Nat → Nat} {h p q w g : Nat} {c : List Ent} {x : Int32} {U : Int32 × RS} (hct : HCT nm AL) (pt : PTX N H D T s0 r0 nm AL s r mu h p q w g c x) (hq : (q : Int) < (r0.i 20).toInt) (hw : 1 ≤ w) (e : f_X12_run_122 N n r = some U) : ∃ (m : Nat) (S : CS) (V : RS), n = m + 1 ∧ (f_X3_instruction N s = some ((), S) ∧ MR s S ∧ (S.i 72 = -1 → CRN N H D T s0 S (x + 1)) ∧ (¬ S.i 72 = -1 → T = (S.i 72, S))) ∧ (f_X12_act N (rNx r) (r.i 92) = some V ∧ f_X12_run_122 N m V = some U ∧ RFX r0 V) ∧ (cOp s = s0.a 15 p ∧ cAr s = s0.a 16 p) ∧ cTg s = cTg s0 ∧ (p < 1200 ∧ q ≤ 3000) ∧ (x + 1).toInt = x.toInt + 1 := by
  obtain ⟨bx, x0⟩ := bud_x pt
  obtain ⟨p1, p2, ⟨p3, p4, p5⟩, -, p6, -⟩ := pt
  obtain ⟨⟨hp, hq3⟩, -⟩ := hct _ _ _ _ _ _ p6
  obtain ⟨S, e1, e2, e3, e4⟩ := p1.on hN p3.1.1.1 p3.1.1.2 (by omega)
  cases n with
  | zero => cases e
  | succ m =>
    have q92 := p3.1.2.2
    have i20 : r.i 20 = r0.i 20 := p2.1 20 (by decide)
    obtain ⟨V, v1, v2⟩ := rn_one (by omega) (by rw [i20]; omega) e
    have o := cop_at p3.1.2.1 hp
    rw [p1.2.1.2.1 15 (by decide), p1.2.1.2.1 16 (by decide)] at o
    have ec : cTg s = cTg s0 := by
      funext t
      unfold cTg
      rw [p1.2.1.2.1 17 (by decide)]
    have rv : RFX r (rNx r) := ⟨fun j hj => rNx_i (by omega), fun _ _ => rfl⟩
    exact ⟨m, S, V, rfl, ⟨e1, e2, e3, e4⟩, ⟨v1, v2, p2.tr (rv.tr (kx_f_X12_act N _ _ V v1))⟩, o, ec, ⟨hp, hq3⟩, ad1 x0 (by omega)⟩
/-- plain instructions end so -/
theorem pl_fin {N H n m : Nat} {D : Nat → List Nat} {T : Int32 × CS} {s0 : CS} {r0 : RS} {nm : Nat → Nat → Prop} {AL : Als} {s S : CS} {r V : RS} {mu : Nat → Nat} {h p q w g h' p' q' w' g' : Nat} {c : List Ent} {x : Int32} {U : Int32 × RS} (hct : HCT nm AL) (pt : PTX N H D T s0 r0 nm AL s r mu h p q w g c x) (hn : n = m + 1) (x1 : (x + 1).toInt = x.toInt + 1) (cr : S.i 72 = -1 → CRN N H D T s0 S (x + 1)) (rf : RFX r0 V) (run : f_X12_run_122 N m V = some U) (mc : MCO nm S V h' p' q') (ec : EXC nm s S) (ev : EXV nm r V) (al : AL p' q' h' w' g' c) (hw : w' + 1 ≤ w) (g1 : ¬ g' = 1) (bt : BTP S h' g') : NXTW N H D T s0 r0 nm AL n U := by
  obtain ⟨p1, p2, ⟨p3, p4, p5⟩, p6, p7, p8⟩ := pt
  obtain ⟨-, ck, -⟩ := hct _ _ _ _ _ _ p7
  have gz : gcr g' = 0 := if_neg g1
  have gz' : gpo g' = 0 := if_neg g1
  have gg : 0 ≤ gcr g ∧ 0 ≤ gpo g := by
    unfold gcr gpo
    by_cases z : g = 1
    · rw [if_pos z, if_pos z]
      decide
    · rw [if_neg z, if_neg z]
      decide
  have d := p4.ex ck ec ev
  have d' : DYN S V mu AL c (-(gcr g')) := by
    obtain ⟨⟨d1, d2, d3, ⟨d4, d5⟩, d6, d7⟩, o⟩ := d
    exact ⟨⟨d1, d2, d3, ⟨d4, by omega⟩, d6, d7⟩, o⟩
  have st := ev.2.2.2
  exact Or.inl ⟨m, S, V, mu, h', p', q', w', g', c, x + 1, by omega, ⟨cr mc.1.1.1, rf, ⟨mc, d', p5.ex ec ev⟩, bt, al, by omega⟩, run⟩
theorem BTP.no {s : CS} {h g : Nat} (hg : ¬ 2 ≤ g) : BTP s h g := fun z => absurd z hg
/-- PUSH -/
def UPush (s0 : CS) (r0 : RS) (AL : Als) (p q h w : Nat) (c : List Ent) : Prop := s0.a 15 p = 0 ∧ r0.a 21 q = 2 ∧ s0.a 16 p = r0.a 22 q ∧ h < 600 ∧ ∃ g' : Nat, NXW AL (p + 1) (q + 1) (h + 1) w 1 g' c ∧ (g' = 0 ∨ (g' = 2 ∧ (s0.a 16 p = 0 ∨ s0.a 16 p = 1)) ∨ (g' = 4 ∧ s0.a 16 p = 1))
theorem u_push {N H n : Nat} (hN : 10000000000 ≤ N) {D : Nat → List Nat} {T : Int32 × CS} {s0 : CS} {r0 : RS} {nm : Nat → Nat → Prop} {AL : Als} {s : CS} {r : RS} {mu : Nat → Nat} {h p q w g : Nat} {c : List Ent} {x : Int32} {U : Int32 × RS} (hct : HCT nm AL) (pt : PTX N H D T s0 r0 nm AL s r mu h p q w g c x) (hq : (q : Int) < (r0.i 20).toInt) (u : UPush s0 r0 AL p q h w c) (e : f_X12_run_122 N n r = some U) : NXTW N H D T s0 r0 nm AL n U := by
  obtain ⟨u1, u2, u3, u4, g', ⟨w', u5, u6⟩, u7⟩ := u
  obtain ⟨m, S, V, hn, ⟨e1, e2, e3, e4⟩, ⟨v1, v2, v3⟩, ⟨o1, o2⟩, oc, ⟨hp, hq3⟩, x1⟩ := pt_tick hN hct pt hq (by omega) e
  have rf := pt.2.1
  have h21 : r.a 21 q = r0.a 21 q := by rw [rf.2 21 (by decide)]
  have h22 : r.a 22 q = r0.a 22 q := by rw [rf.2 22 (by decide)]
  obtain ⟨m1, m2, m3⟩ := un_push pt.2.2.1.1 (by omega) (by omega) u4 (o1.trans u1) (h21.trans u2) (by rw [o2, h22]; exact u3) e1 v1
  have eS : S = cPu (cNx s) (cAr s) := xi_0 (o1.trans u1) e1
  have hv := pt.2.2.1.1.2.1.1
  have e65 : ((cNx s).i 65).toInt = (h : Int) := by
    rw [cNx_i (by decide)]
    exact hv.1
  have top : S.a 60 h = cAr s := by
    rw [eS]
    show gPut ((cNx s).a 60) 600 ((cNx s).i 65) (cAr s) h = cAr s
    unfold gPut
    rw [if_pos ⟨by omega, by omega⟩, cl_nat e65]
    exact if_pos rfl
  rw [o2] at top
  refine pl_fin hct pt hn x1 e3 v3 v2 m1 m2 m3 u6 u5 (by rcases u7 with z | ⟨z, -⟩ | ⟨z, -⟩ <;> omega) (fun z => ⟨h, rfl, ?_, fun y => by rcases u7 with z' | ⟨z', -⟩ | ⟨z', -⟩ <;> omega, fun y => ?_⟩)
  · rw [top]
    rcases u7 with y | ⟨-, y⟩ | ⟨-, y⟩
    · omega
    · exact y
    · exact Or.inr y
  · rw [top]
    rcases u7 with z' | ⟨z', -⟩ | ⟨-, z'⟩
    · omega
    · omega
    · exact z'
/-- LOAD -/
def ULoad (s0 : CS) (r0 : RS) (nm : Nat → Nat → Prop) (AL : Als) (p q h w : Nat) (c : List Ent) : Prop := s0.a 15 p = 1 ∧ r0.a 21 q = 3 ∧ (∃ k l : Nat, (s0.a 16 p).toInt = (k : Int) ∧ (r0.a 22 q).toInt = (l : Int) ∧ nm k l) ∧ h < 600 ∧ NXW AL (p + 1) (q + 1) (h + 1) w 1 0 c
theorem u_load {N H n : Nat} (hN : 10000000000 ≤ N) {D : Nat → List Nat} {T : Int32 × CS} {s0 : CS} {r0 : RS} {nm : Nat → Nat → Prop} {AL : Als} {s : CS} {r : RS} {mu : Nat → Nat} {h p q w g : Nat} {c : List Ent} {x : Int32} {U : Int32 × RS} (hct : HCT nm AL) (nn : NMP nm) (pt : PTX N H D T s0 r0 nm AL s r mu h p q w g c x) (hq : (q : Int) < (r0.i 20).toInt) (u : ULoad s0 r0 nm AL p q h w c) (e : f_X12_run_122 N n r = some U) : NXTW N H D T s0 r0 nm AL n U := by
  obtain ⟨u1, u2, ⟨k, l, u3, u4, u5⟩, u6, w', u7, u8⟩ := u
  obtain ⟨m, S, V, hn, ⟨e1, e2, e3, e4⟩, ⟨v1, v2, v3⟩, ⟨o1, o2⟩, oc, ⟨hp, hq3⟩, x1⟩ := pt_tick hN hct pt hq (by omega) e
  have rf := pt.2.1
  have h21 : r.a 21 q = r0.a 21 q := by rw [rf.2 21 (by decide)]
  have h22 : r.a 22 q = r0.a 22 q := by rw [rf.2 22 (by decide)]
  obtain ⟨m1, m2, m3⟩ := un_load nn pt.2.2.1.1 (by omega) (by omega) u6 (o1.trans u1) (h21.trans u2) (by rw [o2]; exact u3) (by rw [h22]; exact u4) u5 e1 v1
  exact pl_fin hct pt hn x1 e3 v3 v2 m1 m2 m3 u8 u7 (by decide) (BTP.no (by decide))
/-- STORE, INCREASE -/
def UStor (s0 : CS) (r0 : RS) (nm : Nat → Nat → Prop) (AL : Als) (p q h w : Nat) (c : List Ent) : Prop := (∃ k l : Nat, (s0.a 16 p).toInt = (k : Int) ∧ (r0.a 22 q).toInt = (l : Int) ∧ nm k l) ∧ ((s0.a 15 p = 2 ∧ r0.a 21 q = 5 ∧ ∃ h' : Nat, h = h' + 1 ∧ NXW AL (p + 1) (q + 1) h' w 1 0 c) ∨ (s0.a 15 p = 3 ∧ r0.a 21 q = 6 ∧ NXW AL (p + 1) (q + 1) h w 1 0 c))
theorem u_stor {N H n : Nat} (hN : 10000000000 ≤ N) {D : Nat → List Nat} {T : Int32 × CS} {s0 : CS} {r0 : RS} {nm : Nat → Nat → Prop} {AL : Als} {s : CS} {r : RS} {mu : Nat → Nat} {h p q w g : Nat} {c : List Ent} {x : Int32} {U : Int32 × RS} (hct : HCT nm AL) (nn : NMP nm) (pt : PTX N H D T s0 r0 nm AL s r mu h p q w g c x) (hq : (q : Int) < (r0.i 20).toInt) (u : UStor s0 r0 nm AL p q h w c) (e : f_X12_run_122 N n r = some U) : NXTW N H D T s0 r0 nm AL n U := by
  obtain ⟨⟨k, l, u3, u4, u5⟩, u⟩ := u
  have hw : 1 ≤ w := by
    rcases u with ⟨-, -, h', -, w', z, -⟩ | ⟨-, -, w', z, -⟩ <;> omega
  obtain ⟨m, S, V, hn, ⟨e1, e2, e3, e4⟩, ⟨v1, v2, v3⟩, ⟨o1, o2⟩, oc, ⟨hp, hq3⟩, x1⟩ := pt_tick hN hct pt hq hw e
  have rf := pt.2.1
  have h21 : r.a 21 q = r0.a 21 q := by rw [rf.2 21 (by decide)]
  have h22 : r.a 22 q = r0.a 22 q := by rw [rf.2 22 (by decide)]
  rcases u with ⟨u1, u2, h', eh, w', u7, u8⟩ | ⟨u1, u2, w', u7, u8⟩
  · have mc := pt.2.2.1.1
    rw [eh] at mc
    obtain ⟨m1, m2, m3⟩ := un_stor nn mc (by omega) (by omega) (o1.trans u1) (h21.trans u2) (by rw [o2]; exact u3) (by rw [h22]; exact u4) u5 e1 v1
    exact pl_fin hct pt hn x1 e3 v3 v2 m1 m2 m3 u8 u7 (by decide) (BTP.no (by decide))
  · obtain ⟨m1, m2, m3⟩ := un_inc nn pt.2.2.1.1 (by omega) (by omega) (o1.trans u1) (h21.trans u2) (by rw [o2]; exact u3) (by rw [h22]; exact u4) u5 e1 v1
    exact pl_fin hct pt hn x1 e3 v3 v2 m1 m2 m3 u8 u7 (by decide) (BTP.no (by decide))
/-- JMP -/
def UJmp (s0 : CS) (r0 : RS) (AL : Als) (p q h w : Nat) (c : List Ent) : Prop := s0.a 15 p = 30 ∧ r0.a 21 q = 15 ∧ JX s0 AL (s0.a 16 p) (r0.a 22 q) h w 1 0 c
theorem u_jmp {N H n : Nat} (hN : 10000000000 ≤ N) {D : Nat → List Nat} {T : Int32 × CS} {s0 : CS} {r0 : RS} {nm : Nat → Nat → Prop} {AL : Als} {s : CS} {r : RS} {mu : Nat → Nat} {h p q w g : Nat} {c : List Ent} {x : Int32} {U : Int32 × RS} (hct : HCT nm AL) (pt : PTX N H D T s0 r0 nm AL s r mu h p q w g c x) (hq : (q : Int) < (r0.i 20).toInt) (u : UJmp s0 r0 AL p q h w c) (e : f_X12_run_122 N n r = some U) : NXTW N H D T s0 r0 nm AL n U := by
  obtain ⟨u1, u2, p', q', w', ⟨u3, u4⟩, u7, u8⟩ := u
  obtain ⟨m, S, V, hn, ⟨e1, e2, e3, e4⟩, ⟨v1, v2, v3⟩, ⟨o1, o2⟩, oc, ⟨hp, hq3⟩, x1⟩ := pt_tick hN hct pt hq (by omega) e
  have rf := pt.2.1
  have h21 : r.a 21 q = r0.a 21 q := by rw [rf.2 21 (by decide)]
  have h22 : r.a 22 q = r0.a 22 q := by rw [rf.2 22 (by decide)]
  obtain ⟨m1, m2, m3⟩ := un_jmp pt.2.2.1.1 (by omega) (by omega) (o1.trans u1) (h21.trans u2) (by rw [oc, o2]; exact u3) (by rw [h22]; exact u4) e1 v1
  exact pl_fin hct pt hn x1 e3 v3 v2 m1 m2 m3 u8 u7 (by decide) (BTP.no (by decide))
/-- the top value: cTp -/
theorem cTp_at' {s : CS} {h : Nat} (e : (s.i 65).toInt = (h : Int) + 1) (h6 : h < 600) : cTp s = s.a 60 h := by
  have e1 : (1 : Int32).toInt = 1 := by decide
  have hi := Int32.toInt_lt (s.i 65)
  have em : (s.i 65 - 1).toInt = (h : Int) := by
    rw [toInt_sub] <;> rw [e1] <;> omega
  unfold cTp gAt
  rw [if_pos (show ib (s.i 65 - 1) 600 from ⟨by omega, by omega⟩), cl_nat em]
/-- JZ; g = 4: the top value is 1 -/
def UJz (s0 : CS) (r0 : RS) (AL : Als) (p q h w g : Nat) (c : List Ent) : Prop := s0.a 15 p = 31 ∧ r0.a 21 q = 13 ∧ ∃ h' : Nat, h = h' + 1 ∧ (g = 4 ∨ JX s0 AL (s0.a 16 p) (r0.a 22 q) h' w 1 0 c) ∧ NXW AL (p + 1) (q + 1) h' w 1 0 c
theorem u_jz {N H n : Nat} (hN : 10000000000 ≤ N) {D : Nat → List Nat} {T : Int32 × CS} {s0 : CS} {r0 : RS} {nm : Nat → Nat → Prop} {AL : Als} {s : CS} {r : RS} {mu : Nat → Nat} {h p q w g : Nat} {c : List Ent} {x : Int32} {U : Int32 × RS} (hct : HCT nm AL) (pt : PTX N H D T s0 r0 nm AL s r mu h p q w g c x) (hq : (q : Int) < (r0.i 20).toInt) (u : UJz s0 r0 AL p q h w g c) (e : f_X12_run_122 N n r = some U) : NXTW N H D T s0 r0 nm AL n U := by
  obtain ⟨u1, u2, h', eh, uj, w'', u9, u10⟩ := u
  obtain ⟨m, S, V, hn, ⟨e1, e2, e3, e4⟩, ⟨v1, v2, v3⟩, ⟨o1, o2⟩, oc, ⟨hp, hq3⟩, x1⟩ := pt_tick hN hct pt hq (by omega) e
  have rf := pt.2.1
  have h21 : r.a 21 q = r0.a 21 q := by rw [rf.2 21 (by decide)]
  have h22 : r.a 22 q = r0.a 22 q := by rw [rf.2 22 (by decide)]
  have mc := pt.2.2.1.1
  have bt := pt.2.2.2.1
  rw [eh] at mc
  rcases uj with g4 | ⟨p', q', w', ⟨u3, u4⟩, u7, u8⟩
  · obtain ⟨k, ek, -, -, k4⟩ := bt (by omega)
    have kh : k = h' := by omega
    have t60 := k4 g4
    rw [kh] at t60
    have hv := mc.2.1.1
    have e65 : (s.i 65).toInt = (h' : Int) + 1 := by
      rw [hv.1]
      omega
    have h6 : h' < 600 := by
      have := hv.2.2
      omega
    have ct : cTp s = 1 := (cTp_at' e65 h6).trans t60
    have f1 := xi_31 (o1.trans u1) e1
    have g1 := xa_13 (r := rNx r) (by rw [mc.clq]; exact h21.trans u2) v1
    obtain ⟨t1, t2, t3, t4⟩ := un_tak mc (by omega) (by omega)
    have tp : rTp (rNx r) = cTp s := t4.symm
    have c0 : ¬ cTp s = 0 := by rw [ct]; decide
    rw [tp, if_neg c0] at g1
    have f1' : S = cPo (cNx s) := f1.trans (if_neg c0)
    obtain ⟨-, -, n3, n4⟩ := mc.nx (by omega) (by omega)
    obtain ⟨b1, b2⟩ := un_toR (y := (rNx r).i 92) t1 n4
    rw [← f1'] at b1 t2
    rw [← g1] at b1 b2
    exact pl_fin hct pt hn x1 e3 v3 v2 b1 t2 (t3.tr b2) u10 u9 (by decide) (BTP.no (by decide))
  · obtain ⟨m1, m2, m3⟩ := un_jz mc (by omega) (by omega) (o1.trans u1) (h21.trans u2) (by rw [oc, o2]; exact u3) (by rw [h22]; exact u4) e1 v1
    rcases m1 with ⟨-, m1⟩ | ⟨-, m1⟩
    · exact pl_fin hct pt hn x1 e3 v3 v2 m1 m2 m3 u8 u7 (by decide) (BTP.no (by decide))
    · exact pl_fin hct pt hn x1 e3 v3 v2 m1 m2 m3 u10 u9 (by decide) (BTP.no (by decide))
/-- OUT -/
def UOut (s0 : CS) (r0 : RS) (AL : Als) (p q h w : Nat) (c : List Ent) : Prop := s0.a 15 p = 52 ∧ r0.a 21 q = 16 ∧ ∃ h' : Nat, h = h' + 1 ∧ NXW AL (p + 1) (q + 1) h' w 1 0 c
theorem u_out {N H n : Nat} (hN : 10000000000 ≤ N) {D : Nat → List Nat} {T : Int32 × CS} {s0 : CS} {r0 : RS} {nm : Nat → Nat → Prop} {AL : Als} {s : CS} {r : RS} {mu : Nat → Nat} {h p q w g : Nat} {c : List Ent} {x : Int32} {U : Int32 × RS} (hct : HCT nm AL) (pt : PTX N H D T s0 r0 nm AL s r mu h p q w g c x) (hq : (q : Int) < (r0.i 20).toInt) (u : UOut s0 r0 AL p q h w c) (e : f_X12_run_122 N n r = some U) : NXTW N H D T s0 r0 nm AL n U := by
  obtain ⟨u1, u2, h', eh, w', u7, u8⟩ := u
  obtain ⟨m, S, V, hn, ⟨e1, e2, e3, e4⟩, ⟨v1, v2, v3⟩, ⟨o1, o2⟩, oc, ⟨hp, hq3⟩, x1⟩ := pt_tick hN hct pt hq (by omega) e
  have rf := pt.2.1
  have h21 : r.a 21 q = r0.a 21 q := by rw [rf.2 21 (by decide)]
  have mc := pt.2.2.1.1
  rw [eh] at mc
  obtain ⟨m1, m2, m3⟩ := un_out mc (by omega) (by omega) (o1.trans u1) (h21.trans u2) e1 v1
  exact pl_fin hct pt hn x1 e3 v3 v2 m1 m2 m3 u8 u7 (by decide) (BTP.no (by decide))
